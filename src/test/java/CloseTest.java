/** Promise 12. */
final class CloseTest {
    private CloseTest() {
    }

    public static void main(String[] args) {
        whichBeans();
        reverseOrder();
        behindAFault();
        Check.end();
    }

    /** "the objects of made beans of scope one ... with destroy: event 7 ... then none is made (objects and events stay)". */
    private static void whichBeans() {
        WiredBeans beans = Check.family();
        beans.setter(0, 0, 8);
        Check.is("without a document", beans.close(), 0);
        Check.with(beans, "<bean id='a' class='K0' destroy='p'><set name='a' ref='c'/></bean>"
                + "<bean id='b' class='K1'/><bean id='c' class='K2' destroy='q' depends='d'/>"
                + "<bean id='d' class='K3' destroy='r' scope='many'/>"
                + "<bean id='e' class='K0' destroy='s' lazy='yes'/>"
                + "<bean id='f' class='K0' destroy='t'><set name='a'><bean class='K1' destroy='u'/></set></bean>"
                + "<bean id='g' class='K0' destroy='v' lazy='yes'><set name='a' ref='none'/></bean>");
        Check.is("nothing was made", beans.close(), 0);
        Check.is("refresh", Check.refresh(beans), "6");
        Check.is("fails", Check.get(beans, "g"), "fails 1 at 7");
        int before = beans.events();
        Check.is("three more events", beans.close(), before + 3);
        Check.is("the last that was made first, and only those of scope one that were made, with destroy",
                Check.events(beans).substring(Check.events(beans).indexOf("/7") + 1), "7 4 19 0/7 0 15 0/7 2 16 0");
        Check.is("none is made then", beans.bean(0, 10) + beans.bean(1, 10) + beans.bean(5, 10), 0);
        Check.is("nothing more to close", beans.close(), before + 3);
        Check.is("objects stay", beans.object(0, 0), 0);
        Check.is("made again", Check.get(beans, "c"), "8");
        Check.is("and closed again", beans.close(), before + 6);
    }

    /** "in the reverse order in which they were made": a bean is made behind its sets, whenever its object came to be. */
    private static void reverseOrder() {
        WiredBeans beans = Check.family();
        beans.setter(0, 0, 8);
        Check.with(beans, "<bean id='a' class='K0' destroy='a'><set name='a' ref='b'/></bean>"
                + "<bean id='b' class='K1' destroy='b'><set name='a' ref='c'/></bean>"
                + "<bean id='c' class='K2' destroy='c' depends='d'><set name='a' ref='a'/></bean>"
                + "<bean id='d' class='K3' destroy='z'/><bean id='e' class='K0'/>");
        Check.is("refresh", Check.refresh(beans), "5");
        int before = beans.events();
        Check.is("those with destroy", beans.close(), before + 4);
        Check.is("in order", Check.events(beans).substring(Check.events(beans).indexOf("/7")),
                "/7 0 0 0/7 1 1 0/7 3 2 0/7 2 25 0");
        Check.is("a second time", beans.close(), before + 4);
        Check.get(beans, "d");
        Check.is("one only", beans.close(), before + 6);
        Check.is("its newest object", beans.event(before + 5, 1), 5);
    }

    private static void behindAFault() {
        WiredBeans beans = Check.family();
        Check.with(beans, "<bean id='a' class='K0' destroy='d'/>");
        Check.refresh(beans);
        Check.read(beans, "<beans><bean id='a' class='K0' destroy='d'/>");
        Check.is("nothing is made behind a fault", beans.close(), 0);
        Check.is("no events", beans.events(), 0);
        Check.with(beans, "<bean id='a' class='K0' destroy='d'/>");
        Check.is("nothing is made behind a document", beans.close(), 0);
    }
}
