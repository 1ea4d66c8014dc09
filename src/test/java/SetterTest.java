/** Promise 4. */
final class SetterTest {
    private SetterTest() {
    }

    public static void main(String[] args) {
        numbers();
        eachNumber();
        room();
        refusedTakesNoRoom();
        nearest();
        Check.end();
    }

    private static void numbers() {
        WiredBeans beans = new WiredBeans();
        Check.is("class -1", beans.setter(-1, 0, 0), false);
        Check.is("class 8", beans.setter(8, 0, 0), false);
        Check.is("name -1", beans.setter(0, -1, 0), false);
        Check.is("name 26", beans.setter(0, 26, 0), false);
        for (int type : new int[] {-1, 5, 6, 7, 16, Integer.MAX_VALUE}) {
            Check.is("type " + type, beans.setter(0, 0, type), false);
        }
        Check.is("what was refused took no name", beans.setter(0, 0, 15), true);
        Check.is("a name again", beans.setter(0, 0, 15), false);
        Check.is("the last name", beans.setter(0, 25, 4), true);
        Check.is("the same name in another class", beans.setter(1, 25, 4), true);
    }

    /** "CLASSES 0 .. 7", names "0 .. 25 for a .. z", TYPES 0 .. 4 and 8 .. 15. */
    private static void eachNumber() {
        for (int c = -2; c <= 9; c++) {
            Check.is("class " + c, new WiredBeans().setter(c, 25, 15), c >= 0 && c <= 7);
        }
        for (int name = -2; name <= 27; name++) {
            Check.is("name " + name, new WiredBeans().setter(7, name, 0), name >= 0 && name <= 25);
        }
        for (int type = -2; type <= 17; type++) {
            Check.is("type " + type, new WiredBeans().setter(0, 0, type), Check.isType(type));
        }
        for (int far : new int[] {Integer.MIN_VALUE, Integer.MAX_VALUE}) {
            Check.is("class " + far, new WiredBeans().setter(far, 0, 0), false);
            Check.is("name " + far, new WiredBeans().setter(0, far, 0), false);
            Check.is("type " + far, new WiredBeans().setter(0, 0, far), false);
        }
    }

    /** "up to 8 SETTERS", "false also if the class has one of that name": what is refused changes nothing. */
    private static void refusedTakesNoRoom() {
        WiredBeans beans = new WiredBeans();
        beans.constructor(3, 0, 0, 0, 0);
        for (int name = 18; name < 25; name++) {
            Check.is("setter " + name, beans.setter(3, name, 0), true);
            Check.is("setter " + name + " again", beans.setter(3, name, 3), false);
            Check.is("no type", beans.setter(3, 0, 5), false);
        }
        Check.is("the eighth", beans.setter(3, 25, 0), true);
        Check.is("the ninth", beans.setter(3, 0, 0), false);
        Check.is("the eighth again", beans.setter(3, 25, 0), false);
        Check.with(beans, "<bean id='a' class='K3'><set name='s' value='5'/></bean>");
        Check.is("made", Check.get(beans, "a"), "0");
        Check.is("its type is the first one's", Check.events(beans), "1 0 3 0/4 0 18 5");
    }

    private static void room() {
        WiredBeans beans = new WiredBeans();
        for (int name = 0; name < 8; name++) {
            Check.is("setter " + name, beans.setter(3, name, 0), true);
        }
        Check.is("a ninth one", beans.setter(3, 8, 0), false);
        beans.constructor(3, 0, 0, 0, 0);
        Check.with(beans, "<bean id='a' class='K3'><set name='h' value='9'/></bean>"
                + "<bean id='b' class='K3'><set name='i' value='9'/></bean>");
        Check.is("the eighth", Check.get(beans, "a"), "0");
        Check.is("the ninth", Check.get(beans, "b"), "fails 7 at 1");
        Check.is("events", Check.events(beans), "1 0 3 0/4 0 7 9/1 1 3 0");
    }

    private static void nearest() {
        WiredBeans beans = Check.family();
        beans.setter(0, 0, 3);
        beans.setter(2, 0, 0);
        Check.with(beans, "<bean id='a' class='K1'><set name='a' value='12'/></bean>"
                + "<bean id='b' class='K3'><set name='a' value='12'/></bean>"
                + "<bean id='c' class='K3'><set name='a' value='x'/></bean>");
        Check.get(beans, "a");
        Check.get(beans, "b");
        Check.is("the nearest one counts, even if it does not fit", Check.get(beans, "c"), "fails 8 at 2");
        Check.is("events", Check.events(beans), "1 0 1 0/4 0 0 1002/1 1 3 0/4 1 0 12/1 2 3 0");
    }
}
