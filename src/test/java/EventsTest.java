/** Promises 13 and 14. */
final class EventsTest {
    private EventsTest() {
    }

    public static void main(String[] args) {
        numbers();
        atMost();
        Check.end();
    }

    private static void numbers() {
        WiredBeans beans = Check.family();
        beans.setter(1, 3, 0);
        Check.with(beans, "<bean id='a' class='K1' init='i' destroy='j'><set name='d' value='44'/></bean>");
        Check.is("none yet", beans.events(), 0);
        Check.is("event 0 of none", beans.event(0, 0), Check.NONE);
        Check.refresh(beans);
        beans.close();
        Check.is("how many", beans.events(), 4);
        Check.is("0 for a number that it has not", Check.events(beans), "1 0 1 0/4 0 3 44/5 0 8 0/7 0 9 0");
        Check.is("event 4", beans.event(4, 0), Check.NONE);
        Check.is("event -1", beans.event(-1, 0), Check.NONE);
        Check.is("a number -1", beans.event(0, -1), Check.NONE);
        Check.is("a number 4", beans.event(0, 4), Check.NONE);
        Check.is("extremes", beans.event(Integer.MAX_VALUE, Integer.MIN_VALUE), Check.NONE);
    }

    private static void atMost() {
        WiredBeans beans = Check.family();
        beans.constructor(0, 3, 4, 4, 4);
        String list = "<arg><list><null/><null/><null/><null/><null/><null/></list></arg>";
        Check.with(beans, "<bean id='a' class='K0' scope='many'>" + list.repeat(3) + "</bean>"
                + "<bean id='b' class='K1' destroy='d'/>");
        Check.is("object 0", Check.get(beans, "b"), "0");
        for (int i = 1; i <= 19; i++) {
            Check.is("object " + i, Check.get(beans, "a"), "" + i);
            Check.is("events with object " + i, beans.events(), Math.min(1 + 22 * i, 400));
        }
        Check.is("the last event", beans.event(399, 0) + " " + beans.event(399, 3), "6 -1");
        Check.get(beans, "a");
        Check.is("events beyond are left out", beans.events(), 400);
        Check.is("none behind the last", beans.event(400, 0), Check.NONE);
        Check.is("closed", beans.close(), 400);
        Check.is("nothing changed", beans.event(0, 2), 1);
        Check.is("refresh", Check.refresh(beans), "22");
        Check.is("room again", beans.events(), 1);
    }
}
