/** Promise 9. */
final class RefreshTest {
    private RefreshTest() {
    }

    public static void main(String[] args) {
        whichBeans();
        again();
        failing();
        failingAtTheFirst();
        upToSixty();
        withoutADocument();
        Check.end();
    }

    private static void whichBeans() {
        WiredBeans beans = Check.family();
        Check.is("without a document", Check.refresh(beans), "no document");
        Check.with(beans, "");
        Check.is("no beans", Check.refresh(beans), "0");
        Check.with(beans, "<bean id='a' class='K0' abstract='yes'/><bean id='b' class='K1' scope='many'/>"
                + "<bean id='c' class='K2' lazy='yes'/><bean id='d' class='K3'/><bean id='e' class='K0' lazy='no'/>");
        Check.is("how many objects", Check.refresh(beans), "2");
        Check.is("in order, and only some", Check.events(beans), "1 0 3 0/1 1 0 0");
        Check.with(beans, "<bean id='a' class='K0' depends='c'/><bean id='b' class='K1'/>"
                + "<bean id='c' class='K2' lazy='yes'/>");
        Check.is("a lazy one that is needed", Check.refresh(beans), "3");
        Check.is("it comes first", Check.events(beans), "1 0 2 0/1 1 0 0/1 2 1 0");
    }

    private static void again() {
        WiredBeans beans = Check.family();
        Check.with(beans, "<bean id='a' class='K0' destroy='d'/><bean id='b' class='K1' lazy='yes'/>");
        Check.is("got before", Check.get(beans, "b"), "0");
        Check.is("first", Check.refresh(beans), "2");
        Check.is("events went", Check.events(beans), "1 1 0 0");
        Check.is("no bean was made any more", beans.bean(1, 10), 0);
        Check.is("second", Check.refresh(beans), "3");
        Check.is("nothing is destroyed", Check.events(beans), "1 2 0 0");
        Check.is("the older object stays", beans.object(1, 1), 0);
        Check.is("its newest object", Check.get(beans, "a"), "2");
        beans.close();
        Check.is("closed once", Check.events(beans), "1 2 0 0/7 2 3 0");
    }

    /** "If that fails, all is CLOSED": also if nothing was made, and if what is needed was made already. */
    private static void failingAtTheFirst() {
        WiredBeans beans = Check.family();
        beans.setter(0, 0, 8);
        Check.with(beans, "<bean id='a' class='K0' destroy='d'><set name='a' ref='b'/><set name='b' value=''/></bean>"
                + "<bean id='b' class='K1' destroy='e'/><bean id='c' class='K2' destroy='f'/>");
        Check.is("made before", Check.get(beans, "c"), "0");
        Check.is("fails", Check.refresh(beans), "fails 7 at 0");
        Check.is("only what was made since", Check.events(beans), "1 1 0 0/1 2 1 0/4 1 0 3002/7 2 4 0");
        Check.is("none is made", beans.bean(0, 10) + beans.bean(1, 10) + beans.bean(2, 10), 0);
        Check.is("nothing more to close", beans.close(), 4);
        Check.with(beans, "<bean id='a' class='K0' depends='x' destroy='d'/>");
        Check.is("fails at once", Check.refresh(beans), "fails 1 at 0");
        Check.is("no events", beans.events(), 0);
        Check.is("failing again", Check.refresh(beans), "fails 1 at 0");
    }

    /** "how many objects there are, since the document was read": their numbers go on to 60. */
    private static void upToSixty() {
        WiredBeans beans = Check.family();
        StringBuilder twenty = new StringBuilder();
        for (char id = 'a'; id < 'u'; id++) {
            twenty.append("<bean id='").append(id).append("' class='K0' destroy='").append(id).append("'/>");
        }
        Check.with(beans, twenty.toString());
        for (int time = 1; time <= 3; time++) {
            Check.is("time " + time, Check.refresh(beans), "" + 20 * time);
            Check.is("events of time " + time, beans.events(), 20);
            Check.is("objects go on", beans.event(0, 1), 20 * time - 20);
        }
        Check.is("no room", Check.refresh(beans), "fails 6 at 0");
        Check.is("no events", beans.events(), 0);
        Check.is("nothing is made", beans.bean(0, 10), 0);
        Check.is("all objects stay", beans.object(59, 1), 19);
        Check.with(beans, twenty.toString());
        Check.get(beans, "a");
        Check.is("21", Check.refresh(beans), "21");
        Check.is("41", Check.refresh(beans), "41");
        Check.is("the sixty-first", Check.refresh(beans), "fails 6 at 19");
        Check.is("19 came to be and were closed", beans.events(), 38);
        Check.is("the last one first", beans.event(19, 0) + " " + beans.event(19, 1) + " " + beans.event(19, 2), "7 59 18");
        Check.is("the first one last", beans.event(37, 0) + " " + beans.event(37, 1) + " " + beans.event(37, 2), "7 41 0");
    }

    private static void withoutADocument() {
        WiredBeans beans = Check.family();
        Check.read(beans, "<beans>");
        Check.is("behind a fault", Check.refresh(beans), "no document");
        Check.is("no failure", beans.fault(2) + " " + beans.fault(3), "0 -1");
        Check.is("events", beans.events(), 0);
        Check.is("the fault is still told", beans.fault(0) + " " + beans.fault(1), "1 7");
    }

    private static void failing() {
        WiredBeans beans = Check.family();
        Check.with(beans, "<bean id='a' class='K0' destroy='d'/><bean id='b' class='K1' destroy='e'/>"
                + "<bean id='c' class='K2'><set name='x' value=''/></bean><bean id='d' class='K0'/>");
        Check.is("fails", Check.refresh(beans), "fails 7 at 2");
        Check.is("all is closed then", Check.events(beans), "1 0 0 0/1 1 1 0/1 2 2 0/7 1 4 0/7 0 3 0");
        Check.is("not made", beans.bean(0, 10), 0);
        Check.is("objects stay", beans.object(2, 0), 2);
        beans.setter(2, 'x' - 'a', 3);
        Check.is("works now", Check.refresh(beans), "7");
        Check.is("no failure any more", beans.fault(2) + " " + beans.fault(3), "0 -1");
        Check.is("made", beans.bean(0, 10), 1);
    }
}
