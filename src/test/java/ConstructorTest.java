/** Promise 3. */
final class ConstructorTest {
    private ConstructorTest() {
    }

    public static void main(String[] args) {
        numbers();
        room();
        notThoseOfTheParent();
        Check.end();
    }

    private static void numbers() {
        WiredBeans beans = new WiredBeans();
        Check.is("class -1", beans.constructor(-1, 0, 0, 0, 0), false);
        Check.is("class 8", beans.constructor(8, 0, 0, 0, 0), false);
        Check.is("-1 types", beans.constructor(0, -1, 0, 0, 0), false);
        Check.is("4 types", beans.constructor(0, 4, 0, 0, 0), false);
        for (int type : new int[] {-1, 5, 6, 7, 16, Integer.MIN_VALUE, Integer.MAX_VALUE}) {
            Check.is("first type " + type, beans.constructor(0, 1, type, 0, 0), false);
            Check.is("second type " + type, beans.constructor(0, 2, 0, type, 0), false);
            Check.is("third type " + type, beans.constructor(0, 3, 0, 0, type), false);
        }
        Check.is("only the first n count", beans.constructor(0, 0, 5, 6, 7), true);
        Check.is("only the first counts", beans.constructor(0, 1, 15, 6, 7), true);
        Check.is("only the first two count", beans.constructor(0, 2, 4, 8, 7), true);
        Check.is("three", beans.constructor(0, 3, 0, 1, 2), true);
    }

    private static void room() {
        WiredBeans beans = new WiredBeans();
        for (int i = 0; i < 4; i++) {
            Check.is("constructor " + i, beans.constructor(7, i == 3 ? 1 : 3, 0, 0, 0), true);
        }
        Check.is("a fifth one", beans.constructor(7, 0, 0, 0, 0), false);
        Check.with(beans, "<bean id='a' class='K7'/><bean id='b' class='K7'><arg value='-5'/></bean>");
        Check.is("the fifth one did not come", Check.get(beans, "a"), "fails 5 at 0");
        Check.is("the fourth one did", Check.get(beans, "b"), "0");
        Check.is("its events", Check.events(beans), "1 0 7 3/3 0 0 -5");
    }

    private static void notThoseOfTheParent() {
        WiredBeans beans = new WiredBeans();
        beans.declare(1, 0);
        beans.constructor(0, 0, 0, 0, 0);
        Check.with(beans, "<bean id='a' class='K1'/>");
        Check.is("constructors are not the parent's", Check.get(beans, "a"), "fails 5 at 0");
    }
}
