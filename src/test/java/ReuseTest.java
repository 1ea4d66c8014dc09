/** Promises 2, 7 and 10: one container that reads one document after another keeps nothing of the older ones. */
final class ReuseTest {
    private static final String RICH = "<beans>\n<bean id='a' class='K1' init='i' destroy='d' scope='many' lazy='yes'>"
            + "<arg at='1' type='int' value='12345'/><arg at='0'><list><value>true</value><bean class='K0'/></list></arg>"
            + "<set name='a'><value>123456789</value></set><set name='b' ref='b'/><lookup name='l' bean='a'/></bean>"
            + "<bean id='b' parent='c' depends='c' factory='c' method='m'><set name='c' value='true'/></bean>"
            + "<alias name='b' to='x'/><bean id='c' class='K3'/></beans>";

    private ReuseTest() {
    }

    public static void main(String[] args) {
        elements();
        beans();
        afterFaults();
        objectsOfBefore();
        declaredAgain();
        Check.end();
    }

    private static WiredBeans used() {
        WiredBeans beans = Check.family();
        beans.setter(0, 0, 0);
        beans.setter(0, 1, 8);
        beans.setter(0, 2, 3);
        beans.constructor(1, 2, 4, 0, 0);
        beans.factory(3, 12, false, 1, 0, 0, 0, 0);
        Check.is("a rich document", Check.read(beans, RICH), "4");
        Check.is("all of it", Check.get(beans, "a"), "1");
        Check.is("its lookup", Check.call(beans, 1, 'l'), "5");
        return beans;
    }

    private static void elements() {
        WiredBeans beans = used();
        beans.constructor(2, 1, 0, 0, 0);
        beans.constructor(2, 1, 3, 0, 0);
        Check.with(beans, "<bean id='a' class='K2'><arg value='1'/></bean><bean id='b' class='K2'><arg><value>1 3</value>"
                + "</arg></bean><bean id='c' class='K2'><arg><value/></arg></bean>"
                + "<bean id='d' class='K2'><arg value='tru'/></bean>");
        Check.is("refresh", Check.refresh(beans), "4");
        Check.is("events", Check.events(beans),
                "1 0 2 1/3 0 0 1/1 1 2 2/3 1 0 1003/1 2 2 2/3 2 0 1000/1 3 2 2/3 3 0 1003");
        String value = "<bean id='a' class='K2'><arg><value>1#3</value></arg></bean>";
        Check.with(beans, value.replace('#', '2'));
        Check.with(beans, value.replace('#', ' '));
        Check.is("white in the place of a digit", Check.refresh(beans), "1");
        Check.is("a text", Check.events(beans), "1 0 2 2/3 0 0 1003");
        Check.is("only aliases", Check.read(beans, "<beans><alias name='q' to='a'/><alias name='q' to='b'/></beans>"), "0");
        Check.is("an alias of nothing", Check.get(beans, "a"), "fails 1 at -1");
        Check.is("an alias of before", Check.get(beans, "x"), "fails 1 at -1");
        Check.with(beans, "<bean id='b' class='K0'/><alias name='b' to='x'/><alias name='b' to='y'/>");
        Check.with(beans, "<bean id='b' class='K0'/>");
        Check.is("an alias that stood just behind the last element", Check.get(beans, "x"), "fails 1 at -1");
        Check.is("nothing in it", Check.read(beans, "<beans/>"), "0");
        Check.is("refresh of nothing", Check.refresh(beans), "0");
    }

    private static void beans() {
        WiredBeans beans = used();
        Check.with(beans, "<bean id='a' class='K0'/><bean id='b' class='K2' destroy='e'/>");
        for (int what = 0; what < 11; what++) {
            int[] due = {0, 0, 0, 0, -1, -1, -1, 0, 0, 0, 0};
            Check.is("bean 0, " + what, beans.bean(0, what), due[what]);
        }
        Check.is("how many beans", beans.bean(2, 0), Check.NONE);
        Check.is("nothing to close", beans.close(), 0);
        Check.is("refresh", Check.refresh(beans), "2");
        Check.is("events", Check.events(beans), "1 0 0 0/1 1 2 0");
        Check.is("no lookup any more", Check.call(beans, 0, 'l'), "nothing there");
        Check.with(beans, "<bean id='b' class='K2' destroy='e'/><bean id='a' class='K0' destroy='f'/>");
        Check.is("nothing of before is closed", beans.close(), 0);
    }

    private static void afterFaults() {
        WiredBeans beans = used();
        Check.is("deep inside", Check.read(beans, "<a><a><a><a><a><a b='1' c='2'>text <"), "throws 1 at 36");
        Check.is("as deep again", Check.read(beans, "<a><a><a><a><a><a/></a></a></a></a></a>"), "throws 2 at 0");
        Check.is("full", Check.read(beans, "<a>" + "<b/>".repeat(80) + "</a>"), "throws 1 at 319");
        Check.is("wrong parent", Check.read(beans, "<beans><bean id='a' parent='a'/></beans>"), "throws 3 at 7");
        for (int i = 0; i < 20; i++) {
            Check.is("many attributes and values", Check.read(beans, "<beans>" + ("<alias name='abcdefgh' to='"
                    + "ijklmnop'/>").repeat(30) + "</beans>"), "throws 3 at 45");
        }
        Check.is("a rich document again", Check.read(beans, RICH), "4");
        Check.is("all of it again", Check.get(beans, "a"), "1");
    }

    private static void objectsOfBefore() {
        WiredBeans beans = Check.family();
        beans.constructor(1, 1, 8, 0, 0);
        beans.setter(0, 0, 8);
        Check.with(beans, "<bean id='a' class='K1'><arg ref='b'/></bean>"
                + "<bean id='b' class='K0'><set name='a' ref='a'/></bean>");
        Check.is("through the setter", Check.get(beans, "b"), "0");
        beans.close();
        Check.is("an object of before does not count", Check.get(beans, "a"), "fails 3 at 1");
        Check.is("from the other end", Check.refresh(beans), "fails 3 at 1");
        Check.is("no name", Check.get(beans, ""), "fails 1 at -1");
        beans.declare(1, 0);
        beans.constructor(1, 1, 8, 0, 0);
        Check.is("through the setter again", Check.get(beans, "b"), "4");
        Check.is("no failure any more", beans.fault(2) + " " + beans.fault(3), "0 -1");
    }

    private static void declaredAgain() {
        WiredBeans beans = new WiredBeans();
        for (int time = 0; time < 3; time++) {
            beans.declare(4, 2);
            for (int name = 0; name < 8; name++) {
                Check.is("setter " + name, beans.setter(4, name, 0), true);
            }
            Check.is("a ninth setter", beans.setter(4, 8, 0), false);
            for (int i = 0; i < 4; i++) {
                Check.is("constructor " + i, beans.constructor(4, 0, 0, 0, 0), true);
                Check.is("factory " + i, beans.factory(4, 0, true, 0, 0, 0, 0, 0), true);
            }
            Check.is("a fifth constructor", beans.constructor(4, 0, 0, 0, 0), false);
            Check.is("a fifth factory", beans.factory(4, 0, true, 0, 0, 0, 0, 0), false);
        }
    }
}
