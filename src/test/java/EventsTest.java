/** Promises 13 and 14. */
final class EventsTest {
    private EventsTest() {
    }

    public static void main(String[] args) {
        numbers();
        atMost();
        lastOfClose();
        lastOfRow();
        Check.end();
    }

    private static void numbers() {
        WiredBeans beans = Check.family();
        beans.setter(1, 3, 0);
        Check.with(beans, "<bean id='a' class='K1' init='i' destroy='j'><set name='d' value='44'/></bean>");
        Check.is("none yet", beans.events(), 0);
        Check.is("event 0 of none", beans.event(0, 0), Check.NONE);
        Check.refresh(beans);
        beans.close();
        Check.is("how many", beans.events(), 4);
        Check.is("0 for a number that it has not", Check.events(beans), "1 0 1 0/4 0 3 44/5 0 8 0/7 0 9 0");
        Check.is("event 4", beans.event(4, 0), Check.NONE);
        Check.is("event -1", beans.event(-1, 0), Check.NONE);
        Check.is("a number -1", beans.event(0, -1), Check.NONE);
        Check.is("a number 4", beans.event(0, 4), Check.NONE);
        Check.is("extremes", beans.event(Integer.MAX_VALUE, Integer.MIN_VALUE), Check.NONE);
    }

    /** A container with 22 events for each a, one for each m, and so on; some so far. */
    private static WiredBeans with(int events) {
        WiredBeans beans = Check.family();
        beans.constructor(0, 3, 4, 4, 4);
        String list = "<arg><list><null/><null/><null/><null/><null/><null/></list></arg>";
        Check.with(beans, "<bean id='a' class='K0' scope='many'>" + list.repeat(3) + "</bean>"
                + "<bean id='m' class='K1' scope='many'/><bean id='b' class='K2' destroy='d'/>"
                + "<bean id='c' class='K3' destroy='e' init='i'/>");
        Check.get(beans, "b");
        while (beans.events() + 22 <= events) {
            Check.get(beans, "a");
        }
        while (beans.events() < events) {
            Check.get(beans, "m");
        }
        Check.is("events so far", beans.events(), events);
        return beans;
    }

    /** "at most 400: those beyond are left out": what closing adds at 398, 399 and 400. */
    private static void lastOfClose() {
        WiredBeans beans = with(396);
        Check.get(beans, "c");
        Check.is("398", beans.events(), 398);
        Check.is("both are told", beans.close(), 400);
        Check.is("the last one", beans.event(399, 0) + " " + beans.event(399, 1), "7 0");
        beans = with(397);
        Check.get(beans, "c");
        Check.is("399", beans.events(), 399);
        Check.is("one is told", beans.close(), 400);
        Check.is("the last one made", beans.event(399, 0) + " " + beans.event(399, 2), "7 4");
        Check.is("none is made, though it was not told", beans.bean(2, 10) + beans.bean(3, 10), 0);
        beans = with(398);
        Check.get(beans, "c");
        Check.is("400", beans.events(), 400);
        Check.is("none is told", beans.close(), 400);
        Check.is("the last one is init", beans.event(399, 0) + " " + beans.event(399, 2), "5 8");
        beans = with(399);
        Check.is("made", Check.get(beans, "c"), "" + objects(beans));
        Check.is("init is left out", beans.event(399, 0) + " " + beans.event(399, 2), "1 3");
        Check.is("no event 400", beans.event(400, 0), Check.NONE);
    }

    /** How many there were before the latest one. */
    private static int objects(WiredBeans beans) {
        int count = 0;
        while (beans.object(count + 1, 0) != Check.NONE) {
            count++;
        }
        return count;
    }

    /** A row of which some events are left out: all before stay, and objects come to be as ever. */
    private static void lastOfRow() {
        WiredBeans beans = with(390);
        Check.get(beans, "a");
        Check.is("400", beans.events(), 400);
        Check.is("the tenth of its events", beans.event(399, 0) + " " + beans.event(399, 1) + " " + beans.event(399, 2)
                + " " + beans.event(399, 3), "6 -1 0 -1");
        Check.is("the ninth", beans.event(398, 0) + " " + beans.event(398, 2) + " " + beans.event(398, 3), "3 1 2006");
        int before = objects(beans);
        Check.is("one more", Check.get(beans, "m"), "" + (before + 1));
        Check.is("no event of it", beans.events(), 400);
        Check.is("refresh", Check.refresh(beans), "" + (before + 4));
        Check.is("a row anew", Check.events(beans), "1 " + (before + 2) + " 2 0/1 " + (before + 3) + " 3 0/5 "
                + (before + 3) + " 8 0");
    }

    private static void atMost() {
        WiredBeans beans = Check.family();
        beans.constructor(0, 3, 4, 4, 4);
        String list = "<arg><list><null/><null/><null/><null/><null/><null/></list></arg>";
        Check.with(beans, "<bean id='a' class='K0' scope='many'>" + list.repeat(3) + "</bean>"
                + "<bean id='b' class='K1' destroy='d'/>");
        Check.is("object 0", Check.get(beans, "b"), "0");
        for (int i = 1; i <= 19; i++) {
            Check.is("object " + i, Check.get(beans, "a"), "" + i);
            Check.is("events with object " + i, beans.events(), Math.min(1 + 22 * i, 400));
        }
        Check.is("the last event", beans.event(399, 0) + " " + beans.event(399, 3), "6 -1");
        Check.get(beans, "a");
        Check.is("events beyond are left out", beans.events(), 400);
        Check.is("none behind the last", beans.event(400, 0), Check.NONE);
        Check.is("closed", beans.close(), 400);
        Check.is("nothing changed", beans.event(0, 2), 1);
        Check.is("refresh", Check.refresh(beans), "22");
        Check.is("room again", beans.events(), 1);
    }
}
