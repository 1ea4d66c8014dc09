/** Promise 9. */
final class RefreshTest {
    private RefreshTest() {
    }

    public static void main(String[] args) {
        whichBeans();
        again();
        failing();
        Check.end();
    }

    private static void whichBeans() {
        WiredBeans beans = Check.family();
        Check.is("without a document", Check.refresh(beans), "no document");
        Check.with(beans, "");
        Check.is("no beans", Check.refresh(beans), "0");
        Check.with(beans, "<bean id='a' class='K0' abstract='yes'/><bean id='b' class='K1' scope='many'/>"
                + "<bean id='c' class='K2' lazy='yes'/><bean id='d' class='K3'/><bean id='e' class='K0' lazy='no'/>");
        Check.is("how many objects", Check.refresh(beans), "2");
        Check.is("in order, and only some", Check.events(beans), "1 0 3 0/1 1 0 0");
        Check.with(beans, "<bean id='a' class='K0' depends='c'/><bean id='b' class='K1'/>"
                + "<bean id='c' class='K2' lazy='yes'/>");
        Check.is("a lazy one that is needed", Check.refresh(beans), "3");
        Check.is("it comes first", Check.events(beans), "1 0 2 0/1 1 0 0/1 2 1 0");
    }

    private static void again() {
        WiredBeans beans = Check.family();
        Check.with(beans, "<bean id='a' class='K0' destroy='d'/><bean id='b' class='K1' lazy='yes'/>");
        Check.is("got before", Check.get(beans, "b"), "0");
        Check.is("first", Check.refresh(beans), "2");
        Check.is("events went", Check.events(beans), "1 1 0 0");
        Check.is("no bean was made any more", beans.bean(1, 10), 0);
        Check.is("second", Check.refresh(beans), "3");
        Check.is("nothing is destroyed", Check.events(beans), "1 2 0 0");
        Check.is("the older object stays", beans.object(1, 1), 0);
        Check.is("its newest object", Check.get(beans, "a"), "2");
        beans.close();
        Check.is("closed once", Check.events(beans), "1 2 0 0/7 2 3 0");
    }

    private static void failing() {
        WiredBeans beans = Check.family();
        Check.with(beans, "<bean id='a' class='K0' destroy='d'/><bean id='b' class='K1' destroy='e'/>"
                + "<bean id='c' class='K2'><set name='x' value=''/></bean><bean id='d' class='K0'/>");
        Check.is("fails", Check.refresh(beans), "fails 7 at 2");
        Check.is("all is closed then", Check.events(beans), "1 0 0 0/1 1 1 0/1 2 2 0/7 1 4 0/7 0 3 0");
        Check.is("not made", beans.bean(0, 10), 0);
        Check.is("objects stay", beans.object(2, 0), 2);
        beans.setter(2, 'x' - 'a', 3);
        Check.is("works now", Check.refresh(beans), "7");
        Check.is("no failure any more", beans.fault(2) + " " + beans.fault(3), "0 -1");
        Check.is("made", beans.bean(0, 10), 1);
    }
}
