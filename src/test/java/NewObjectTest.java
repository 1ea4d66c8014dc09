/** Promise 1: "No classes have anything; no document." */
final class NewObjectTest {
    private NewObjectTest() {
    }

    public static void main(String[] args) {
        noDocument();
        noClassHasAnything();
        noClassHasAParent();
        sideBySide();
        Check.end();
    }

    private static void noDocument() {
        WiredBeans beans = new WiredBeans();
        Check.is("events", beans.events(), 0);
        Check.is("close", beans.close(), 0);
        for (int what = 0; what < 4; what++) {
            Check.is("fault " + what, beans.fault(what), what % 2 == 0 ? 0 : Check.NONE);
        }
        Check.is("event", beans.event(0, 0), Check.NONE);
        Check.is("object", beans.object(0, 0), Check.NONE);
        Check.is("bean", beans.bean(0, 0), Check.NONE);
        Check.is("get", Check.get(beans, "a"), "no document");
        Check.is("refresh", Check.refresh(beans), "no document");
        Check.is("call", Check.call(beans, 0, 'a'), "no document");
        Check.is("the text is empty", beans.type(0, 0, 0, 0, 'x'), 1);
    }

    private static void noClassHasAnything() {
        for (char digit = '0'; digit <= '7'; digit++) {
            WiredBeans bare = new WiredBeans();
            int c = digit - '0';
            Check.with(bare, "<bean id='a' class='K#'/><bean id='b' class='K#' method='a'/><bean id='f' class='K#'/>"
                    .replace('#', digit) + "<bean id='c' factory='f' method='a'/>"
                    + "<bean id='d' class='K#'><set name='a' value=''/></bean>".replace('#', digit));
            Check.is("no constructor", Check.get(bare, "a"), "fails 5 at 0");
            Check.is("no static factory", Check.get(bare, "b"), "fails 5 at 1");
            Check.is("setters are free", bare.setter(c, 1, 0), true);
            Check.is("a constructor comes", bare.constructor(c, 0, 0, 0, 0), true);
            Check.is("no other factory", Check.get(bare, "c"), "fails 5 at 3");
            Check.is("no setter of that name", Check.get(bare, "d"), "fails 7 at 4");
            Check.is("the first constructor is number 0", Check.events(bare), "1 0 % 0/1 1 % 0".replace("%", "" + c));
        }
    }

    /** Nothing is above a class that has not been declared. */
    private static void noClassHasAParent() {
        WiredBeans bare = new WiredBeans();
        for (int c = 0; c < 8; c++) {
            bare.constructor(c, 0, 0, 0, 0);
        }
        bare.constructor(0, 1, 8, 0, 0);
        for (char digit = '0'; digit <= '7'; digit++) {
            Check.with(bare, "<bean id='a' class='K0'><arg><bean class='K" + digit + "'/></arg></bean>");
            Check.is("class " + digit + " as class 0", Check.get(bare, "a"), digit == '0' ? "1" : "fails 5 at 0");
        }
    }

    /** What is done to one object is not done to another one. */
    private static void sideBySide() {
        WiredBeans one = new WiredBeans();
        one.constructor(0, 0, 0, 0, 0);
        Check.with(one, "<bean id='a' class='K0' destroy='d'/>");
        one.type('x', 0, 0, 0, 0);
        WiredBeans other = new WiredBeans();
        Check.is("made of one", Check.get(one, "a"), "0");
        Check.is("no document of the other", Check.get(other, "a"), "no document");
        Check.is("no text of the other", other.type(0, 0, 0, 0, 0), 0);
        Check.with(other, "<bean id='a' class='K0'/>");
        Check.is("no constructor of the other", Check.get(other, "a"), "fails 5 at 0");
        Check.is("no failure of the one", one.fault(2), 0);
        Check.is("nothing to close of the other", other.close(), 0);
        Check.is("made is made", Check.get(one, "a"), "0");
        Check.is("one closes", one.close(), 2);
    }
}
