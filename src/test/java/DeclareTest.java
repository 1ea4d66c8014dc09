/** Promise 2. */
final class DeclareTest {
    private DeclareTest() {
    }

    public static void main(String[] args) {
        numbers();
        nothingElseAnyMore();
        atAnyTime();
        Check.end();
    }

    private static void numbers() {
        WiredBeans beans = new WiredBeans();
        Check.is("class 0", beans.declare(0, -1), true);
        Check.is("class 7", beans.declare(7, 6), true);
        Check.is("class -1", beans.declare(-1, -1), false);
        Check.is("class 8", beans.declare(8, -1), false);
        Check.is("a class as its own parent", beans.declare(3, 3), false);
        Check.is("a higher parent", beans.declare(3, 4), false);
        Check.is("parent -2", beans.declare(3, -2), false);
        Check.is("the least int", beans.declare(Integer.MIN_VALUE, Integer.MIN_VALUE), false);
        Check.is("the greatest int", beans.declare(Integer.MAX_VALUE, 0), false);
    }

    private static void nothingElseAnyMore() {
        WiredBeans beans = Check.family();
        beans.constructor(1, 1, 8, 0, 0);
        beans.setter(1, 0, 0);
        beans.factory(1, 0, true, 0, 0, 0, 0, 0);
        Check.with(beans, "<bean id='a' class='K1'/><bean id='b' class='K1' method='a'/>"
                + "<bean id='c' class='K0' method='a'/><bean id='d' class='K3'><set name='a' value='1'/></bean>");
        Check.is("with a constructor", Check.get(beans, "a"), "0");
        Check.is("with a factory", Check.get(beans, "b"), "1");
        beans.close();
        Check.is("declare refused", beans.declare(1, 1), false);
        Check.is("what is refused changes nothing", Check.get(beans, "a"), "2");
        beans.close();
        Check.is("declared anew", beans.declare(1, 0), true);
        Check.is("no constructor any more", Check.get(beans, "a"), "fails 5 at 0");
        Check.is("no factory any more", Check.get(beans, "b"), "fails 5 at 1");
        Check.is("no setter any more", beans.setter(1, 0, 0), true);
        Check.is("room for a factory of the parent", beans.factory(0, 0, true, 1, 0, 0, 0, 0), true);
        Check.is("the parent's factory", Check.get(beans, "b"), "3");
        beans.setter(0, 0, 0);
        beans.close();
        Check.is("a setter two above", Check.get(beans, "d"), "4");
        beans.declare(2, -1);
        beans.close();
        Check.is("cut from its parent", Check.get(beans, "d"), "fails 7 at 3");
    }

    private static void atAnyTime() {
        WiredBeans beans = new WiredBeans();
        Check.with(beans, "<bean id='a' class='K5'/>");
        Check.is("nothing yet", Check.get(beans, "a"), "fails 5 at 0");
        Check.is("a constructor without declare", beans.constructor(5, 0, 0, 0, 0), true);
        Check.is("made now", Check.get(beans, "a"), "0");
    }
}
