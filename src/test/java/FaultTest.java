/** Promise 8. */
final class FaultTest {
    private FaultTest() {
    }

    public static void main(String[] args) {
        ofReading();
        ofMaking();
        eachFailure();
        innermost();
        Check.end();
    }

    private static String all(WiredBeans beans) {
        return beans.fault(0) + " " + beans.fault(1) + " " + beans.fault(2) + " " + beans.fault(3);
    }

    private static void ofReading() {
        WiredBeans beans = Check.family();
        Check.is("none yet", all(beans), "0 -1 0 -1");
        Check.read(beans, "<beans");
        Check.is("fault 1", all(beans), "1 6 0 -1");
        Check.read(beans, "<beans><x/></beans>");
        Check.is("fault 2", all(beans), "2 7 0 -1");
        Check.read(beans, "<beans><bean id='a' parent='b'/></beans>");
        Check.is("fault 3", all(beans), "3 7 0 -1");
        Check.is("a new text does not change it", beans.type('x', 0, 0, 0, 0), 1);
        Check.is("still fault 3", all(beans), "3 7 0 -1");
        Check.read(beans, "");
        Check.is("the latest one", all(beans), "1 0 0 -1");
        Check.read(beans, "<beans/>");
        Check.is("no fault", all(beans), "0 -1 0 -1");
        for (int what : new int[] {-1, 4, Integer.MIN_VALUE, Integer.MAX_VALUE}) {
            Check.is("fault " + what, beans.fault(what), Check.NONE);
        }
    }

    /** Each failure at its bean, and that a call without one, or one that is refused, takes it away. */
    private static void eachFailure() {
        WiredBeans beans = Check.family();
        beans.setter(0, 0, 0);
        Check.with(beans, "<bean id='a' class='K0' depends='x'/><bean id='b' class='K0' depends='p'/>"
                + "<bean id='c' class='K0' depends='c'/><bean id='p' abstract='yes'/><bean id='d' parent='p'/>"
                + "<bean id='e' class='K4'/><bean id='f' class='K0' scope='many'/>"
                + "<bean id='g' class='K0'><set name='b' value='1'/></bean><bean id='h' class='K0'><set name='a' value=''/></bean>"
                + "<bean id='i' class='K0'/>");
        Check.is("got", Check.get(beans, "i"), "0");
        String[] due = {"1 0", "2 1", "3 2", "4 4", "5 5", "7 7", "8 8"};
        for (int i = 0; i < due.length; i++) {
            String name = "abcdegh".substring(i, i + 1);
            Check.get(beans, name);
            Check.is("failure of " + name, all(beans), "0 -1 " + due[i]);
            Check.is("got without one", Check.get(beans, "i"), "0");
            Check.is("none any more", all(beans), "0 -1 0 -1");
            Check.get(beans, name);
            Check.is("refused", Check.call(beans, -1, 'a'), "nothing there");
            Check.is("none any more when refused", all(beans), "0 -1 0 -1");
        }
        while (Check.get(beans, "f").matches("\\d+")) {
            Check.is("none yet", all(beans), "0 -1 0 -1");
        }
        Check.is("no room", all(beans), "0 -1 6 6");
        Check.is("the last object", beans.object(59, 1), 6);
    }

    /** "the innermost one that was being made": what has been made by then is not being made any more. */
    private static void innermost() {
        WiredBeans beans = Check.family();
        beans.setter(0, 0, 8);
        Check.with(beans, "<bean id='a' class='K0'><set name='a'><bean class='K1'><set name='a' ref='b'/></bean></set>"
                + "<set name='b' value=''/></bean><bean id='b' class='K2'/>"
                + "<bean id='c' class='K0' depends='d'><arg ref='b'/></bean><bean id='d' class='K0' depends='b'/>"
                + "<bean id='e' class='K0' depends='d'><set name='a'><bean class='K1' depends='none'/></set></bean>");
        Check.is("made", Check.get(beans, "b"), "0");
        Check.get(beans, "none");
        Check.is("none was being made", all(beans), "0 -1 1 -1");
        Check.get(beans, "a");
        Check.is("the outer one again", all(beans), "0 -1 7 0");
        Check.get(beans, "c");
        Check.is("behind depends and args", all(beans), "0 -1 5 3");
        Check.get(beans, "e");
        Check.is("the one within", all(beans), "0 -1 1 6");
        Check.get(beans, "none");
        Check.is("none behind a failure", all(beans), "0 -1 1 -1");
    }

    private static void ofMaking() {
        WiredBeans beans = Check.family();
        Check.with(beans, "<bean id='a' class='K0'><arg><bean class='K1'><arg ref='none'/></bean></arg></bean>"
                + "<bean id='b' class='K0' lazy='yes'><lookup name='l' bean='none'/></bean>");
        Check.get(beans, "none");
        Check.is("no bean was being made", all(beans), "0 -1 1 -1");
        Check.get(beans, "a");
        Check.is("the innermost one", all(beans), "0 -1 1 1");
        Check.is("got", Check.get(beans, "b"), "0");
        Check.is("the latest one had none", all(beans), "0 -1 0 -1");
        Check.refresh(beans);
        Check.is("of refresh", all(beans), "0 -1 1 1");
        Check.is("no such lookup", Check.call(beans, 0, 'x'), "nothing there");
        Check.is("what else was thrown is no failure", all(beans), "0 -1 0 -1");
        Check.is("a failing call", Check.call(beans, 0, 'l'), "fails 1 at -1");
        Check.is("of call", all(beans), "0 -1 1 -1");
        beans.close();
        Check.is("close leaves it", all(beans), "0 -1 1 -1");
        Check.read(beans, "<");
        Check.is("read leaves it", all(beans), "1 1 1 -1");
        Check.is("no document", Check.get(beans, "a"), "no document");
        Check.is("no failure, but no document", all(beans), "1 1 0 -1");
    }
}
