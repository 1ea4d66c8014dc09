/** Promise 8. */
final class FaultTest {
    private FaultTest() {
    }

    public static void main(String[] args) {
        ofReading();
        ofMaking();
        Check.end();
    }

    private static String all(WiredBeans beans) {
        return beans.fault(0) + " " + beans.fault(1) + " " + beans.fault(2) + " " + beans.fault(3);
    }

    private static void ofReading() {
        WiredBeans beans = Check.family();
        Check.is("none yet", all(beans), "0 -1 0 -1");
        Check.read(beans, "<beans");
        Check.is("fault 1", all(beans), "1 6 0 -1");
        Check.read(beans, "<beans><x/></beans>");
        Check.is("fault 2", all(beans), "2 7 0 -1");
        Check.read(beans, "<beans><bean id='a' parent='b'/></beans>");
        Check.is("fault 3", all(beans), "3 7 0 -1");
        Check.is("a new text does not change it", beans.type('x', 0, 0, 0, 0), 1);
        Check.is("still fault 3", all(beans), "3 7 0 -1");
        Check.read(beans, "");
        Check.is("the latest one", all(beans), "1 0 0 -1");
        Check.read(beans, "<beans/>");
        Check.is("no fault", all(beans), "0 -1 0 -1");
        for (int what : new int[] {-1, 4, Integer.MIN_VALUE, Integer.MAX_VALUE}) {
            Check.is("fault " + what, beans.fault(what), Check.NONE);
        }
    }

    private static void ofMaking() {
        WiredBeans beans = Check.family();
        Check.with(beans, "<bean id='a' class='K0'><arg><bean class='K1'><arg ref='none'/></bean></arg></bean>"
                + "<bean id='b' class='K0' lazy='yes'><lookup name='l' bean='none'/></bean>");
        Check.get(beans, "none");
        Check.is("no bean was being made", all(beans), "0 -1 1 -1");
        Check.get(beans, "a");
        Check.is("the innermost one", all(beans), "0 -1 1 1");
        Check.is("got", Check.get(beans, "b"), "0");
        Check.is("the latest one had none", all(beans), "0 -1 0 -1");
        Check.refresh(beans);
        Check.is("of refresh", all(beans), "0 -1 1 1");
        Check.is("no such lookup", Check.call(beans, 0, 'x'), "nothing there");
        Check.is("what else was thrown is no failure", all(beans), "0 -1 0 -1");
        Check.is("a failing call", Check.call(beans, 0, 'l'), "fails 1 at -1");
        Check.is("of call", all(beans), "0 -1 1 -1");
        beans.close();
        Check.is("close leaves it", all(beans), "0 -1 1 -1");
        Check.read(beans, "<");
        Check.is("read leaves it", all(beans), "1 1 1 -1");
        Check.is("no document", Check.get(beans, "a"), "no document");
        Check.is("no failure, but no document", all(beans), "1 1 0 -1");
    }
}
