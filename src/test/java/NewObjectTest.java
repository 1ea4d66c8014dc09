/** Promise 1. */
final class NewObjectTest {
    private NewObjectTest() {
    }

    public static void main(String[] args) {
        WiredBeans beans = new WiredBeans();
        Check.is("NONE", WiredBeans.NONE, -1);
        Check.is("events", beans.events(), 0);
        Check.is("close", beans.close(), 0);
        for (int what = 0; what < 4; what++) {
            Check.is("fault " + what, beans.fault(what), what % 2 == 0 ? 0 : Check.NONE);
        }
        Check.is("event", beans.event(0, 0), Check.NONE);
        Check.is("object", beans.object(0, 0), Check.NONE);
        Check.is("bean", beans.bean(0, 0), Check.NONE);
        Check.is("get", Check.get(beans, "a"), "no document");
        Check.is("refresh", Check.refresh(beans), "no document");
        Check.is("call", Check.call(beans, 0, 'a'), "no document");
        Check.is("the text is empty", beans.type(0, 0, 0, 0, 'x'), 1);

        WiredBeans bare = new WiredBeans();
        Check.with(bare, "<bean id='a' class='K0'/><bean id='b' class='K7' method='a'/>");
        Check.is("a class has no constructor", Check.get(bare, "a"), "fails 5 at 0");
        Check.is("a class has no factory", Check.get(bare, "b"), "fails 5 at 1");
        Check.is("setters are free", bare.setter(0, 0, 0), true);
        Check.end();
    }
}
