/** Promise 2. */
final class DeclareTest {
    private DeclareTest() {
    }

    public static void main(String[] args) {
        numbers();
        eachPair();
        upToTheEighth();
        refusedTwice();
        nothingElseAnyMore();
        atAnyTime();
        Check.end();
    }

    private static void numbers() {
        WiredBeans beans = new WiredBeans();
        Check.is("class 0", beans.declare(0, -1), true);
        Check.is("class 7", beans.declare(7, 6), true);
        Check.is("class -1", beans.declare(-1, -1), false);
        Check.is("class 8", beans.declare(8, -1), false);
        Check.is("a class as its own parent", beans.declare(3, 3), false);
        Check.is("a higher parent", beans.declare(3, 4), false);
        Check.is("parent -2", beans.declare(3, -2), false);
        Check.is("the least int", beans.declare(Integer.MIN_VALUE, Integer.MIN_VALUE), false);
        Check.is("the greatest int", beans.declare(Integer.MAX_VALUE, 0), false);
    }

    /** "CLASSES 0 .. 7. A class may have a PARENT, a lower class" (NONE for none). */
    private static void eachPair() {
        WiredBeans beans = new WiredBeans();
        for (int c = -2; c <= 9; c++) {
            for (int parent = -3; parent <= 9; parent++) {
                boolean isTold = c >= 0 && c <= 7 && parent >= -1 && parent < c;
                Check.is("declare " + c + " with parent " + parent, beans.declare(c, parent), isTold);
            }
        }
    }

    /** "It IS itself and whatever its parent is": the longest line of parents that there can be, and one step less. */
    private static void upToTheEighth() {
        WiredBeans beans = Check.eightInOneLine();
        beans.setter(0, 0, 8);
        beans.factory(0, 1, true, 6, 0, 0, 0, 0);
        beans.factory(0, 2, false, 5, 0, 0, 0, 0);
        Check.with(beans, "<bean id='a' class='K7'><set name='a' ref='a'/></bean><bean id='b' class='K7' method='b'/>"
                + "<bean id='c' factory='a' method='c'/>");
        Check.is("the last class is the first one", Check.get(beans, "a"), "0");
        Check.is("it has the first one's static factory", Check.get(beans, "b"), "1");
        Check.is("and its other factory", Check.get(beans, "c"), "2");
        Check.is("events", Check.events(beans), "1 0 7 0/4 0 0 3000/2 1 6 0/2 2 5 1");
        beans.close();
        beans.declare(1, -1);
        Check.is("no setter once the line is cut", Check.get(beans, "a"), "fails 7 at 0");
        Check.is("no static factory once the line is cut", Check.get(beans, "b"), "fails 5 at 1");
        beans.setter(1, 0, 9);
        Check.is("the last class is still the second one", Check.get(beans, "a"), "4");
        Check.is("no other factory once the line is cut", Check.get(beans, "c"), "fails 5 at 2");
    }

    /** A refused call leaves the class as it was, parent and all. */
    private static void refusedTwice() {
        WiredBeans beans = Check.family();
        beans.setter(2, 0, 0);
        Check.with(beans, "<bean id='a' class='K3' scope='many'><set name='a' value='1'/></bean>");
        Check.is("made", Check.get(beans, "a"), "0");
        Check.is("itself as its parent", beans.declare(3, 3), false);
        Check.is("a parent below NONE", beans.declare(3, -2), false);
        Check.is("made as before", Check.get(beans, "a"), "1");
        Check.is("NONE as its parent", beans.declare(3, -1), true);
        Check.is("nothing any more", Check.get(beans, "a"), "fails 5 at 0");
    }

    private static void nothingElseAnyMore() {
        WiredBeans beans = Check.family();
        beans.constructor(1, 1, 8, 0, 0);
        beans.setter(1, 0, 0);
        beans.factory(1, 0, true, 0, 0, 0, 0, 0);
        Check.with(beans, "<bean id='a' class='K1'/><bean id='b' class='K1' method='a'/>"
                + "<bean id='c' class='K0' method='a'/><bean id='d' class='K3'><set name='a' value='1'/></bean>");
        Check.is("with a constructor", Check.get(beans, "a"), "0");
        Check.is("with a factory", Check.get(beans, "b"), "1");
        beans.close();
        Check.is("declare refused", beans.declare(1, 1), false);
        Check.is("what is refused changes nothing", Check.get(beans, "a"), "2");
        beans.close();
        Check.is("declared anew", beans.declare(1, 0), true);
        Check.is("no constructor any more", Check.get(beans, "a"), "fails 5 at 0");
        Check.is("no factory any more", Check.get(beans, "b"), "fails 5 at 1");
        Check.is("no setter any more", beans.setter(1, 0, 0), true);
        Check.is("room for a factory of the parent", beans.factory(0, 0, true, 1, 0, 0, 0, 0), true);
        Check.is("the parent's factory", Check.get(beans, "b"), "3");
        beans.setter(0, 0, 0);
        beans.close();
        Check.is("a setter two above", Check.get(beans, "d"), "4");
        beans.declare(2, -1);
        beans.close();
        Check.is("cut from its parent", Check.get(beans, "d"), "fails 7 at 3");
    }

    private static void atAnyTime() {
        WiredBeans beans = new WiredBeans();
        Check.with(beans, "<bean id='a' class='K5'/>");
        Check.is("nothing yet", Check.get(beans, "a"), "fails 5 at 0");
        Check.is("a constructor without declare", beans.constructor(5, 0, 0, 0, 0), true);
        Check.is("made now", Check.get(beans, "a"), "0");
    }
}
