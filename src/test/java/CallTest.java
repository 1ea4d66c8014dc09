/** Promise 11. */
final class CallTest {
    private CallTest() {
    }

    public static void main(String[] args) {
        lookups();
        eachNumber();
        refused();
        Check.end();
    }

    /** "The lookup with a name of the bean that an object was made by: what its bean calls is got." */
    private static void lookups() {
        WiredBeans beans = Check.family();
        Check.is("without a document", Check.call(beans, 0, 'a'), "no document");
        Check.with(beans, "<bean id='a' class='K0'><lookup name='x' bean='m'/><lookup name='y' bean='o'/></bean>"
                + "<bean id='b' parent='a'><lookup name='y' bean='none'/><lookup name='z' bean='p'/></bean>"
                + "<bean id='m' class='K1' scope='many'/><bean id='o' class='K2'/><bean id='n' abstract='yes'/>"
                + "<alias name='n' to='p'/><bean id='c' class='K0'/>");
        Check.is("no object yet", Check.call(beans, 0, 'x'), "nothing there");
        Check.is("got", Check.get(beans, "a"), "0");
        Check.is("many", Check.call(beans, 0, 'x'), "1");
        Check.is("many again", Check.call(beans, 0, 'x'), "2");
        Check.is("one", Check.call(beans, 0, 'y'), "3");
        Check.is("one again", Check.call(beans, 0, 'y'), "3");
        Check.is("no such lookup", Check.call(beans, 0, 'z'), "nothing there");
        Check.is("a name below all", Check.call(beans, 0, (char) ('a' - 1)), "nothing there");
        Check.is("no such object", Check.call(beans, 4, 'x'), "nothing there");
        Check.is("object -1", Check.call(beans, -1, 'x'), "nothing there");
        Check.is("a bean without lookups", Check.call(beans, 1, 'x'), "nothing there");
        Check.is("got another one", Check.get(beans, "b"), "4");
        Check.is("of its parent", Check.call(beans, 4, 'x'), "5");
        Check.is("in place of its parent's", Check.call(beans, 4, 'y'), "fails 1 at -1");
        Check.is("its own", Check.call(beans, 4, 'z'), "fails 2 at -1");
        beans.close();
        Check.is("an object of a bean that is not made any more", Check.call(beans, 0, 'y'), "6");
        Check.read(beans, "");
        Check.is("no document any more", Check.call(beans, 0, 'y'), "no document");
    }

    /** Names 0 .. 25, objects from 0 on: the first and the last of each, and what lies beside them. */
    private static void eachNumber() {
        WiredBeans beans = Check.family();
        Check.with(beans, "<bean id='a' class='K0'><lookup name='a' bean='a'/><lookup name='z' bean='b'/></bean>"
                + "<bean id='b' class='K1'><lookup name='b' bean='a'/></bean>");
        Check.is("refresh", Check.refresh(beans), "2");
        for (int object = -2; object <= 3; object++) {
            for (int name = -2; name <= 27; name++) {
                boolean ofFirst = object == 0 && (name == 0 || name == 25);
                String due = ofFirst ? "" + (name == 0 ? 0 : 1) : object == 1 && name == 1 ? "0" : "nothing there";
                Check.is("lookup " + name + " of object " + object, Check.call(beans, object, name), due);
            }
        }
        for (int far : new int[] {Integer.MIN_VALUE, Integer.MAX_VALUE, 256, -256}) {
            Check.is("object " + far, Check.call(beans, far, 0), "nothing there");
            Check.is("name " + far, Check.call(beans, 0, far), "nothing there");
        }
        for (int i = 2; i < 60; i++) {
            beans.close();
            Check.is("object " + i, Check.get(beans, i % 2 == 0 ? "a" : "b"), "" + i);
        }
        Check.is("the sixtieth object", Check.call(beans, 59, 1), "fails 6 at 0");
        Check.is("no sixty-first one", Check.call(beans, 60, 1), "nothing there");
        Check.is("that is no failure", beans.fault(2) + " " + beans.fault(3), "0 -1");
    }

    /** A call that is refused changes nothing; one of a bean within, or of an object whose bean is not made, goes on. */
    private static void refused() {
        WiredBeans beans = Check.family();
        beans.setter(0, 0, 8);
        Check.with(beans, "<bean id='a' class='K0'><set name='a'><bean class='K1'><lookup name='c' bean='m'/></bean></set>"
                + "<lookup name='x' bean='a'/></bean><bean id='m' class='K2' scope='many'/>");
        Check.is("got", Check.get(beans, "a"), "0");
        Check.is("refused", Check.call(beans, 0, 1), "nothing there");
        Check.is("no events", beans.events(), 3);
        Check.is("no objects", beans.object(2, 0), Check.NONE);
        Check.is("of a bean within", Check.call(beans, 1, 'c'), "2");
        Check.is("itself", Check.call(beans, 0, 'x'), "0");
        beans.close();
        Check.is("itself anew", Check.call(beans, 0, 'x'), "3");
        Check.is("an older object calls the newer one", Check.call(beans, 0, 'x'), "3");
        Check.is("behind a refresh", Check.refresh(beans), "7");
        Check.is("the oldest object stays", Check.call(beans, 0, 'x'), "5");
    }
}
