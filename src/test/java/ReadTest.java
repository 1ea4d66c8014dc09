/** Promise 7: what read() answers and leaves, FAULT 3, and how beans are merged. */
final class ReadTest {
    private ReadTest() {
    }

    public static void main(String[] args) {
        counts();
        names();
        parents();
        leavesNothing();
        merged();
        Check.end();
    }

    private static void is(String inner, String due) {
        Check.is("reading " + inner, Check.read(new WiredBeans(), "<beans>" + inner + "</beans>"), due);
    }

    /** In the text ^ stands before the element that is told. */
    private static void wrong(String marked) {
        int place = marked.indexOf('^');
        is(marked.substring(0, place) + marked.substring(place + 1), "throws 3 at " + (place + 7));
    }

    private static void counts() {
        is("", "0");
        is("<bean id='a' class='K0'/>", "1");
        is("<bean id='a' class='K0'><arg><bean class='K0'><set name='a'><bean class='K0'/></set></bean></arg></bean>"
                + "<alias name='a' to='b'/><bean id='c' abstract='yes'/>", "4");
        is("<bean id='a' class='K0'><arg><list><bean class='K0'/><bean class='K0'/></list></arg></bean>", "3");
    }

    private static void names() {
        wrong("<bean id='a' class='K0'/>^<bean id='a' class='K0'/>");
        wrong("<bean id='a' class='K0'/>^<alias name='x' to='a'/>");
        wrong("<alias name='x' to='a'/>^<bean id='a' class='K0'/>");
        wrong("<alias name='x' to='a'/>^<alias name='y' to='a'/>");
        is("<alias name='a' to='b'/><alias name='b' to='a'/>", "0");
        is("<alias name='a' to='a'/>", "0");
        is("<bean id='ab' class='K0'/><bean id='a' class='K0'/><bean id='ba' class='K0'/>", "3");
    }

    private static void parents() {
        wrong("^<bean id='a' parent='b'/>");
        wrong("^<bean id='a' parent='b'/><alias name='a' to='b'/>");
        wrong("^<bean id='a' parent='a'/>");
        wrong("^<bean id='a' parent='b'/><bean id='b' parent='a'/>");
        wrong("<bean id='z' class='K0'/>^<bean id='a' parent='b'/><bean id='b' parent='c'/><bean id='c' parent='a'/>");
        wrong("<bean id='a' class='K0'><arg>^<bean parent='x'/></arg></bean>");
        is("<bean id='a' parent='b'/><bean id='b' class='K0'/>", "2");
        is("<bean id='a' class='K0'><arg><bean parent='a'/></arg></bean>", "2");
        is("<bean id='a' parent='b'/><bean id='c' abstract='yes'/><bean id='b' parent='c'/>", "3");
        wrong("^<bean id='a' parent='b'/><bean id='c' class='K0'/><bean id='c' class='K0'/>");
        Check.is("fault 2 comes before fault 3",
                Check.read(new WiredBeans(), "<beans><bean id='a' parent='b'/><x/></beans>"), "throws 2 at 32");
    }

    private static void leavesNothing() {
        WiredBeans beans = Check.family();
        Check.with(beans, "<bean id='a' class='K0' destroy='d'/>");
        Check.is("refresh", Check.refresh(beans), "1");
        Check.is("another document", Check.read(beans, "<beans><bean id='b' class='K1'/></beans>"), "1");
        Check.is("no events", beans.events(), 0);
        Check.is("no objects", beans.object(0, 0), Check.NONE);
        Check.is("nothing is made", beans.bean(0, 10), 0);
        Check.is("nothing to close", beans.close(), 0);
        Check.is("the old document is gone", Check.get(beans, "a"), "fails 1 at -1");
        Check.is("objects begin anew", Check.get(beans, "b"), "0");
        Check.is("a fault", Check.read(beans, "<beans>"), "throws 1 at 7");
        Check.is("no events behind a fault", beans.events(), 0);
        Check.is("no objects behind a fault", beans.object(0, 0), Check.NONE);
        Check.is("no beans behind a fault", beans.bean(0, 0), Check.NONE);
        Check.is("no document behind a fault", Check.get(beans, "b"), "no document");
        Check.is("nothing to close behind a fault", beans.close(), 0);
        Check.is("a document again", Check.read(beans, "<beans><bean id='b' class='K1'/></beans>"), "1");
        Check.is("no fault any more", beans.fault(0) + " " + beans.fault(1), "0 -1");
        Check.is("made anew", Check.get(beans, "b"), "0");
    }

    private static void merged() {
        WiredBeans beans = Check.family();
        beans.constructor(1, 1, 0, 0, 0);
        for (int name = 0; name < 6; name++) {
            beans.setter(0, name, 0);
        }
        Check.with(beans, "<bean id='c' parent='b'><set name='d' value='40'/><set name='b' value='20'/></bean>"
                + "<bean id='b' parent='a' class='K1' scope='many' lazy='yes' init='j'><arg value='7'/>"
                + "<set name='e' value='5'/></bean>"
                + "<bean id='a' abstract='yes' class='K0' init='i' destroy='k' depends='x'><set name='a' value='1'/>"
                + "<set name='b' value='2'/><set name='c' value='3'/></bean>");
        Check.is("abstract, scope, lazy and depends are its own", Check.get(beans, "c"), "0");
        Check.is("args, sets in their places, init", Check.events(beans),
                "1 0 1 1/3 0 0 7/4 0 0 1/4 0 1 20/4 0 2 3/4 0 4 5/4 0 3 40/5 0 9 0");
        beans.close();
        Check.is("destroy", beans.event(beans.events() - 1, 2), 10);
    }
}
