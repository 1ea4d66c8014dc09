/** Promise 12. */
final class CloseTest {
    private CloseTest() {
    }

    public static void main(String[] args) {
        WiredBeans beans = Check.family();
        beans.setter(0, 0, 8);
        Check.is("without a document", beans.close(), 0);
        Check.with(beans, "<bean id='a' class='K0' destroy='p'><set name='a' ref='c'/></bean>"
                + "<bean id='b' class='K1'/><bean id='c' class='K2' destroy='q' depends='d'/>"
                + "<bean id='d' class='K3' destroy='r' scope='many'/>"
                + "<bean id='e' class='K0' destroy='s' lazy='yes'/>"
                + "<bean id='f' class='K0' destroy='t'><set name='a'><bean class='K1' destroy='u'/></set></bean>"
                + "<bean id='g' class='K0' destroy='v' lazy='yes'><set name='a' ref='none'/></bean>");
        Check.is("nothing was made", beans.close(), 0);
        Check.is("refresh", Check.refresh(beans), "6");
        Check.is("fails", Check.get(beans, "g"), "fails 1 at 7");
        int before = beans.events();
        Check.is("three more events", beans.close(), before + 3);
        Check.is("the last that was made first, and only those of scope one that were made, with destroy",
                Check.events(beans).substring(Check.events(beans).indexOf("/7") + 1), "7 4 19 0/7 0 15 0/7 2 16 0");
        Check.is("none is made then", beans.bean(0, 10) + beans.bean(1, 10) + beans.bean(5, 10), 0);
        Check.is("nothing more to close", beans.close(), before + 3);
        Check.is("objects stay", beans.object(0, 0), 0);
        Check.is("made again", Check.get(beans, "c"), "8");
        Check.is("and closed again", beans.close(), before + 6);
        Check.end();
    }
}
