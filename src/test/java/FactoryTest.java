/** Promise 5. */
final class FactoryTest {
    private FactoryTest() {
    }

    public static void main(String[] args) {
        numbers();
        room();
        ofOneName();
        staticOrNot();
        Check.end();
    }

    private static void numbers() {
        WiredBeans beans = new WiredBeans();
        Check.is("class -1", beans.factory(-1, 0, true, 0, 0, 0, 0, 0), false);
        Check.is("class 8", beans.factory(8, 0, true, 0, 0, 0, 0, 0), false);
        Check.is("name -1", beans.factory(0, -1, true, 0, 0, 0, 0, 0), false);
        Check.is("name 26", beans.factory(0, 26, true, 0, 0, 0, 0, 0), false);
        Check.is("result -1", beans.factory(0, 0, true, -1, 0, 0, 0, 0), false);
        Check.is("result 8", beans.factory(0, 0, true, 8, 0, 0, 0, 0), false);
        Check.is("-1 types", beans.factory(0, 0, true, 0, -1, 0, 0, 0), false);
        Check.is("4 types", beans.factory(0, 0, true, 0, 4, 0, 0, 0), false);
        Check.is("a wrong type", beans.factory(0, 0, true, 0, 3, 0, 0, 5), false);
        Check.is("only the first n count", beans.factory(0, 0, true, 0, 2, 0, 0, 5), true);
    }

    private static void room() {
        WiredBeans beans = new WiredBeans();
        for (int i = 0; i < 4; i++) {
            Check.is("factory " + i, beans.factory(2, i, true, 5, 0, 0, 0, 0), true);
        }
        Check.is("a fifth one", beans.factory(2, 4, true, 5, 0, 0, 0, 0), false);
        Check.with(beans, "<bean id='a' class='K2' method='d'/><bean id='b' class='K2' method='e'/>");
        Check.is("the fourth", Check.get(beans, "a"), "0");
        Check.is("the fifth", Check.get(beans, "b"), "fails 5 at 1");
        Check.is("8 times its class and its number", Check.events(beans), "2 0 5 19");
        Check.is("the class that comes of it", beans.object(0, 0), 5);
    }

    private static void ofOneName() {
        WiredBeans beans = Check.family();
        beans.factory(0, 0, true, 1, 0, 0, 0, 0);
        beans.factory(0, 0, true, 1, 2, 3, 0, 0);
        beans.factory(0, 0, true, 2, 2, 0, 3, 0);
        beans.factory(2, 0, true, 3, 1, 3, 0, 0);
        Check.with(beans, "<bean id='a' class='K1' method='a'><arg value='1'/><arg value='x'/></bean>"
                + "<bean id='b' class='K3' method='a'/>");
        Check.is("by what fits", Check.get(beans, "a"), "0");
        Check.is("of the class above", Check.events(beans), "2 0 2 2/3 0 0 1/3 0 1 1001");
        Check.is("only those of the nearest class that has one", Check.get(beans, "b"), "fails 5 at 1");
    }

    private static void staticOrNot() {
        WiredBeans beans = Check.family();
        beans.factory(0, 1, false, 1, 0, 0, 0, 0);
        beans.factory(2, 1, true, 3, 0, 0, 0, 0);
        Check.with(beans, "<bean id='f' class='K2'/><bean id='a' factory='f' method='b'/>"
                + "<bean id='b' class='K2' method='b'/><bean id='c' class='K0' method='b'/>");
        Check.is("an object's factory, of a class above one with a static one", Check.get(beans, "a"), "1");
        Check.is("a static one", Check.get(beans, "b"), "2");
        Check.is("one that is not static is no static one", Check.get(beans, "c"), "fails 5 at 3");
        Check.is("events", Check.events(beans), "1 0 2 0/2 1 1 0/2 2 3 16");
    }
}
