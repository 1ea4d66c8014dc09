/** Promise 5. */
final class FactoryTest {
    private FactoryTest() {
    }

    public static void main(String[] args) {
        numbers();
        eachNumber();
        eachType();
        room();
        refusedTakesNoRoom();
        ofOneName();
        staticOrNot();
        classThatComesOfIt();
        threeTypes();
        Check.end();
    }

    private static void numbers() {
        WiredBeans beans = new WiredBeans();
        Check.is("class -1", beans.factory(-1, 0, true, 0, 0, 0, 0, 0), false);
        Check.is("class 8", beans.factory(8, 0, true, 0, 0, 0, 0, 0), false);
        Check.is("name -1", beans.factory(0, -1, true, 0, 0, 0, 0, 0), false);
        Check.is("name 26", beans.factory(0, 26, true, 0, 0, 0, 0, 0), false);
        Check.is("result -1", beans.factory(0, 0, true, -1, 0, 0, 0, 0), false);
        Check.is("result 8", beans.factory(0, 0, true, 8, 0, 0, 0, 0), false);
        Check.is("-1 types", beans.factory(0, 0, true, 0, -1, 0, 0, 0), false);
        Check.is("4 types", beans.factory(0, 0, true, 0, 4, 0, 0, 0), false);
        Check.is("a wrong type", beans.factory(0, 0, true, 0, 3, 0, 0, 5), false);
        Check.is("only the first n count", beans.factory(0, 0, true, 0, 2, 0, 0, 5), true);
    }

    /** "CLASSES 0 .. 7", names "0 .. 25 for a .. z", "a class that comes of it", "0 .. 3 types". */
    private static void eachNumber() {
        for (int c = -2; c <= 9; c++) {
            boolean isClass = c >= 0 && c <= 7;
            Check.is("class " + c, new WiredBeans().factory(c, 25, true, 7, 3, 15, 4, 0), isClass);
            Check.is("result " + c, new WiredBeans().factory(7, 0, false, c, 0, 0, 0, 0), isClass);
        }
        for (int name = -2; name <= 27; name++) {
            Check.is("name " + name, new WiredBeans().factory(0, name, true, 0, 0, 0, 0, 0), name >= 0 && name <= 25);
        }
        for (int n = -2; n <= 5; n++) {
            Check.is(n + " types", new WiredBeans().factory(0, 0, true, 0, n, 0, 0, 0), n >= 0 && n <= 3);
        }
        for (int far : new int[] {Integer.MIN_VALUE, Integer.MAX_VALUE}) {
            Check.is("class " + far, new WiredBeans().factory(far, 0, true, 0, 0, 0, 0, 0), false);
            Check.is("name " + far, new WiredBeans().factory(0, far, true, 0, 0, 0, 0, 0), false);
            Check.is("result " + far, new WiredBeans().factory(0, 0, true, far, 0, 0, 0, 0), false);
            Check.is(far + " types", new WiredBeans().factory(0, 0, true, 0, far, 0, 0, 0), false);
        }
    }

    private static void eachType() {
        for (int type = -2; type <= 17; type++) {
            for (int n = 0; n <= 3; n++) {
                WiredBeans beans = new WiredBeans();
                String what = n + " types with " + type + " at ";
                Check.is(what + "0", beans.factory(0, 0, true, 0, n, type, 0, 0), Check.isType(type) || n < 1);
                Check.is(what + "1", beans.factory(0, 0, true, 0, n, 0, type, 0), Check.isType(type) || n < 2);
                Check.is(what + "2", beans.factory(0, 0, true, 0, n, 0, 0, type), Check.isType(type) || n < 3);
            }
        }
    }

    /** "up to 4 FACTORIES", static or not, of one name or of several: what is refused changes nothing. */
    private static void refusedTakesNoRoom() {
        WiredBeans beans = Check.family();
        Check.is("first", beans.factory(3, 25, true, 1, 0, 0, 0, 0), true);
        for (int i = 0; i < 5; i++) {
            beans.factory(3, 26, true, 1, 0, 0, 0, 0);
            beans.factory(3, 25, true, 8, 0, 0, 0, 0);
        }
        Check.is("second", beans.factory(3, 25, false, 2, 0, 0, 0, 0), true);
        Check.is("third", beans.factory(3, 25, true, 2, 1, 0, 0, 0), true);
        Check.is("fourth", beans.factory(3, 0, false, 0, 0, 0, 0, 0), true);
        Check.is("fifth", beans.factory(3, 1, true, 1, 0, 0, 0, 0), false);
        Check.is("in another class", beans.factory(2, 1, true, 0, 0, 0, 0, 0), true);
        Check.with(beans, "<bean id='a' class='K3'/><bean id='b' class='K3' method='z'/>"
                + "<bean id='c' factory='a' method='z'/><bean id='d' class='K3' method='z'><arg value='4'/></bean>"
                + "<bean id='e' factory='a' method='a'/><bean id='f' class='K3' method='b'/>");
        Check.is("refresh", Check.refresh(beans), "6");
        Check.is("events", Check.events(beans), "1 0 3 0/2 1 1 24/2 2 2 25/2 3 2 26/3 3 0 4/2 4 0 27/2 5 0 16");
    }

    private static void room() {
        WiredBeans beans = new WiredBeans();
        for (int i = 0; i < 4; i++) {
            Check.is("factory " + i, beans.factory(2, i, true, 5, 0, 0, 0, 0), true);
        }
        Check.is("a fifth one", beans.factory(2, 4, true, 5, 0, 0, 0, 0), false);
        Check.with(beans, "<bean id='a' class='K2' method='d'/><bean id='b' class='K2' method='e'/>");
        Check.is("the fourth", Check.get(beans, "a"), "0");
        Check.is("the fifth", Check.get(beans, "b"), "fails 5 at 1");
        Check.is("8 times its class and its number", Check.events(beans), "2 0 5 19");
        Check.is("the class that comes of it", beans.object(0, 0), 5);
    }

    private static void ofOneName() {
        WiredBeans beans = Check.family();
        beans.factory(0, 0, true, 1, 0, 0, 0, 0);
        beans.factory(0, 0, true, 1, 2, 3, 0, 0);
        beans.factory(0, 0, true, 2, 2, 0, 3, 0);
        beans.factory(2, 0, true, 3, 1, 3, 0, 0);
        Check.with(beans, "<bean id='a' class='K1' method='a'><arg value='1'/><arg value='x'/></bean>"
                + "<bean id='b' class='K3' method='a'/>");
        Check.is("by what fits", Check.get(beans, "a"), "0");
        Check.is("of the class above", Check.events(beans), "2 0 2 2/3 0 0 1/3 0 1 1001");
        Check.is("only those of the nearest class that has one", Check.get(beans, "b"), "fails 5 at 1");
    }

    private static void staticOrNot() {
        WiredBeans beans = Check.family();
        beans.factory(0, 1, false, 1, 0, 0, 0, 0);
        beans.factory(2, 1, true, 3, 0, 0, 0, 0);
        Check.with(beans, "<bean id='f' class='K2'/><bean id='a' factory='f' method='b'/>"
                + "<bean id='b' class='K2' method='b'/><bean id='c' class='K0' method='b'/>");
        Check.is("an object's factory, of a class above one with a static one", Check.get(beans, "a"), "1");
        Check.is("a static one", Check.get(beans, "b"), "2");
        Check.is("one that is not static is no static one", Check.get(beans, "c"), "fails 5 at 3");
        Check.is("events", Check.events(beans), "1 0 2 0/2 1 1 0/2 2 3 16");
    }

    /** "a class that comes of it": its object is of that class, not of the bean's, wherever an object's class counts. */
    private static void classThatComesOfIt() {
        WiredBeans beans = Check.family();
        beans.factory(1, 0, true, 3, 0, 0, 0, 0);
        beans.factory(1, 1, false, 1, 0, 0, 0, 0);
        beans.factory(2, 1, false, 0, 0, 0, 0, 0);
        beans.setter(1, 0, 3);
        beans.setter(3, 0, 0);
        beans.constructor(0, 1, 9, 0, 0);
        beans.constructor(0, 1, 10, 0, 0);
        Check.with(beans, "<bean id='a' class='K1' method='a'><set name='a' value='5'/></bean>"
                + "<bean id='b' factory='a' method='b'/><bean id='c' class='K0'><arg ref='a'/></bean>"
                + "<bean id='d' class='K1' method='a'><set name='a' value='x'/></bean>");
        Check.is("its setter", Check.get(beans, "a"), "0");
        Check.is("its factory", Check.get(beans, "b"), "1");
        Check.is("its weight", Check.get(beans, "c"), "2");
        Check.is("its setter alone", Check.get(beans, "d"), "fails 8 at 3");
        Check.is("events", Check.events(beans), "2 0 3 8/4 0 0 5/2 1 0 16/1 2 0 2/3 2 0 3000/2 3 3 8");
        Check.is("the bean's own class", beans.bean(0, 0), 1);
    }

    /** "of whose types there are n": each type at its own place, also the third one, and none behind the n-th. */
    private static void threeTypes() {
        WiredBeans beans = Check.family();
        beans.factory(0, 0, true, 1, 3, 0, 3, 4);
        beans.factory(0, 0, true, 1, 3, 4, 0, 2);
        beans.factory(0, 0, true, 2, 2, 3, 2, 0);
        beans.factory(0, 0, false, 3, 1, 1, 0, 0);
        String list = "<arg><list/></arg>";
        Check.with(beans, "<bean id='a' class='K0' method='a'><arg value='1'/><arg value='x'/>" + list + "</bean>"
                + "<bean id='b' class='K0' method='a'>" + list + "<arg value='1'/><arg value='x'/></bean>"
                + "<bean id='c' class='K0' method='a'><arg value='1'/><arg value='x'/></bean>"
                + "<bean id='d' factory='a' method='a'><arg value='true'/></bean>"
                + "<bean id='e' class='K0' method='a'><arg value='1'/>" + list + "<arg value='x'/></bean>");
        Check.is("int, text, row", Check.get(beans, "a"), "0");
        Check.is("row, int, character", Check.get(beans, "b"), "1");
        Check.is("text, character", Check.get(beans, "c"), "2");
        Check.is("truth", Check.get(beans, "d"), "3");
        Check.is("in no other order", Check.get(beans, "e"), "fails 5 at 4");
        Check.is("events", Check.events(beans), "2 0 1 0/3 0 0 1/3 0 1 1001/3 0 2 2000/2 1 1 1/3 1 0 2000/3 1 1 1/3 1 2 120"
                + "/2 2 2 2/3 2 0 1001/3 2 1 120/2 3 3 3/3 3 0 1");
    }
}
