/** Promise 3. */
final class ConstructorTest {
    private ConstructorTest() {
    }

    public static void main(String[] args) {
        numbers();
        eachType();
        eachClassAndCount();
        room();
        refusedTakesNoRoom();
        notThoseOfTheParent();
        Check.end();
    }

    private static void numbers() {
        WiredBeans beans = new WiredBeans();
        Check.is("class -1", beans.constructor(-1, 0, 0, 0, 0), false);
        Check.is("class 8", beans.constructor(8, 0, 0, 0, 0), false);
        Check.is("-1 types", beans.constructor(0, -1, 0, 0, 0), false);
        Check.is("4 types", beans.constructor(0, 4, 0, 0, 0), false);
        for (int type : new int[] {-1, 5, 6, 7, 16, Integer.MIN_VALUE, Integer.MAX_VALUE}) {
            Check.is("first type " + type, beans.constructor(0, 1, type, 0, 0), false);
            Check.is("second type " + type, beans.constructor(0, 2, 0, type, 0), false);
            Check.is("third type " + type, beans.constructor(0, 3, 0, 0, type), false);
        }
        Check.is("only the first n count", beans.constructor(0, 0, 5, 6, 7), true);
        Check.is("only the first counts", beans.constructor(0, 1, 15, 6, 7), true);
        Check.is("only the first two count", beans.constructor(0, 2, 4, 8, 7), true);
        Check.is("three", beans.constructor(0, 3, 0, 1, 2), true);
    }

    /** "TYPES: 0 int, 1 truth, 2 character, 3 text, 4 row, 8 + c class c", at each place, and "of a, b, b2 the first n". */
    private static void eachType() {
        for (int type = -2; type <= 17; type++) {
            for (int n = 0; n <= 3; n++) {
                WiredBeans beans = new WiredBeans();
                String what = n + " types with " + type + " at ";
                Check.is(what + "0", beans.constructor(0, n, type, 0, 0), Check.isType(type) || n < 1);
                Check.is(what + "1", beans.constructor(0, n, 0, type, 0), Check.isType(type) || n < 2);
                Check.is(what + "2", beans.constructor(0, n, 0, 0, type), Check.isType(type) || n < 3);
            }
        }
    }

    /** "CLASSES 0 .. 7", "each with 0 .. 3 types". */
    private static void eachClassAndCount() {
        for (int c = -2; c <= 9; c++) {
            Check.is("class " + c, new WiredBeans().constructor(c, 3, 0, 0, 0), c >= 0 && c <= 7);
        }
        for (int n = -2; n <= 5; n++) {
            Check.is(n + " types", new WiredBeans().constructor(0, n, 0, 0, 0), n >= 0 && n <= 3);
        }
        for (int far : new int[] {Integer.MIN_VALUE, Integer.MAX_VALUE, 256, -256}) {
            Check.is("class " + far, new WiredBeans().constructor(far, 0, 0, 0, 0), false);
            Check.is(far + " types", new WiredBeans().constructor(0, far, 0, 0, 0), false);
        }
    }

    /** "up to 4 CONSTRUCTORS": a call that is refused leaves room and what is there as they were. */
    private static void refusedTakesNoRoom() {
        WiredBeans beans = new WiredBeans();
        beans.constructor(1, 1, 3, 0, 0);
        for (int i = 0; i < 5; i++) {
            beans.constructor(1, 1, 5, 0, 0);
            beans.constructor(1, 4, 0, 0, 0);
        }
        Check.is("second", beans.constructor(1, 1, 2, 0, 0), true);
        Check.is("third", beans.constructor(1, 1, 1, 0, 0), true);
        Check.is("fourth", beans.constructor(1, 1, 0, 0, 0), true);
        Check.is("fifth", beans.constructor(1, 0, 0, 0, 0), false);
        Check.is("in another class", beans.constructor(2, 0, 0, 0, 0), true);
        Check.with(beans, "<bean id='a' class='K1'><arg value='xy'/></bean><bean id='b' class='K1'><arg value='1'/></bean>");
        Check.is("refresh", Check.refresh(beans), "2");
        Check.is("the first and the fourth", Check.events(beans), "1 0 1 0/3 0 0 1002/1 1 1 3/3 1 0 1");
    }

    private static void room() {
        WiredBeans beans = new WiredBeans();
        for (int i = 0; i < 4; i++) {
            Check.is("constructor " + i, beans.constructor(7, i == 3 ? 1 : 3, 0, 0, 0), true);
        }
        Check.is("a fifth one", beans.constructor(7, 0, 0, 0, 0), false);
        Check.with(beans, "<bean id='a' class='K7'/><bean id='b' class='K7'><arg value='-5'/></bean>");
        Check.is("the fifth one did not come", Check.get(beans, "a"), "fails 5 at 0");
        Check.is("the fourth one did", Check.get(beans, "b"), "0");
        Check.is("its events", Check.events(beans), "1 0 7 3/3 0 0 -5");
    }

    private static void notThoseOfTheParent() {
        WiredBeans beans = new WiredBeans();
        beans.declare(1, 0);
        beans.constructor(0, 0, 0, 0, 0);
        Check.with(beans, "<bean id='a' class='K1'/>");
        Check.is("constructors are not the parent's", Check.get(beans, "a"), "fails 5 at 0");
    }
}
