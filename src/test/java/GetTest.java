/** Promise 10: names, scopes, and the order in which a bean is made. */
final class GetTest {
    private GetTest() {
    }

    public static void main(String[] args) {
        names();
        aliases();
        scopes();
        cycles();
        depends();
        orderOfMaking();
        failures();
        sixtyObjects();
        deep();
        Check.end();
    }

    private static void names() {
        WiredBeans beans = Check.family();
        Check.is("without a document", Check.get(beans, "a"), "no document");
        Check.with(beans, "<bean id='a' class='K0'/><bean id='ab' class='K1'/><bean id='abcdefgh' class='K2'/>");
        Check.is("one letter", beans.get('a'), 0);
        Check.is("zeros are left out", beans.get((long) 'a' << 56 | 'b'), 1);
        Check.is("eight letters", Check.get(beans, "abcdefgh"), "2");
        Check.is("an object again", beans.get((long) 'a' << 40), 0);
        Check.is("no name", Check.get(beans, ""), "fails 1 at -1");
        Check.is("another name", Check.get(beans, "ba"), "fails 1 at -1");
        Check.is("no letters", Check.get(beans, "A"), "fails 1 at -1");
        Check.is("high bytes", Check.get(beans, "\u00e1\u00ff"), "fails 1 at -1");
    }

    private static void aliases() {
        WiredBeans beans = Check.family();
        StringBuilder chain = new StringBuilder("<bean id='z' class='K0'/><alias name='z' to='aa'/>");
        for (char c = 'a'; c < 'v'; c++) {
            chain.append("<alias name='a").append(c).append("' to='a").append((char) (c + 1)).append("'/>");
        }
        Check.with(beans, chain.append("<alias name='x' to='y'/><alias name='y' to='x'/>").toString());
        Check.is("one on", Check.get(beans, "aa"), "0");
        Check.is("twenty on", Check.get(beans, "at"), "0");
        Check.is("twenty-one on", Check.get(beans, "au"), "fails 1 at -1");
        Check.is("a ring", Check.get(beans, "x"), "fails 1 at -1");
    }

    private static void scopes() {
        WiredBeans beans = Check.family();
        beans.constructor(0, 2, 8, 8, 0);
        beans.constructor(3, 1, 8, 0, 0);
        Check.with(beans, "<bean id='m' class='K1' scope='many'/><bean id='o' class='K2'/>"
                + "<bean id='a' class='K0'><arg ref='m'/><arg ref='m'/></bean>"
                + "<bean id='b' class='K0'><arg ref='o'/><arg ref='o'/></bean>"
                + "<bean id='c' class='K3' scope='many'><arg><bean class='K0'/></arg></bean>"
                + "<bean id='n' abstract='yes' class='K0'/>");
        Check.is("one of many", Check.get(beans, "m"), "0");
        Check.is("another of many", Check.get(beans, "m"), "1");
        Check.is("with many", Check.get(beans, "a"), "4");
        Check.is("with one", Check.get(beans, "b"), "6");
        Check.is("a bean within is made", Check.get(beans, "c"), "8");
        Check.is("a bean within is made again", Check.get(beans, "c"), "10");
        Check.is("an abstract one", Check.get(beans, "n"), "fails 2 at -1");
        Check.is("made once", Check.get(beans, "b"), "6");
        Check.is("events", Check.events(beans), "1 0 1 0/1 1 1 0/1 2 1 0/1 3 1 0/1 4 0 1/3 4 0 3002/3 4 1 3003"
                + "/1 5 2 0/1 6 0 1/3 6 0 3005/3 6 1 3005/1 7 0 0/1 8 3 1/3 8 0 3007/1 9 0 0/1 10 3 1/3 10 0 3009");
    }

    private static void cycles() {
        WiredBeans beans = Check.family();
        beans.setter(0, 0, 8);
        beans.constructor(1, 1, 8, 0, 0);
        Check.with(beans, "<bean id='a' class='K0'><set name='a' ref='b'/></bean>"
                + "<bean id='b' class='K0'><set name='a' ref='a'/></bean>"
                + "<bean id='c' class='K1'><arg ref='d'/></bean><bean id='d' class='K0'><set name='a' ref='c'/></bean>"
                + "<bean id='e' class='K0' scope='many'><set name='a' ref='e'/></bean>"
                + "<bean id='f' class='K0' depends='f'/>"
                + "<bean id='g' class='K1'><arg><bean class='K0'><set name='a' ref='g'/></bean></arg></bean>");
        Check.is("through setters", Check.get(beans, "a"), "0");
        Check.is("both made", beans.bean(0, 10) + beans.bean(1, 10), 2);
        Check.is("events", Check.events(beans), "1 0 0 0/1 1 0 0/4 1 0 3000/4 0 0 3001");
        Check.is("through a constructor", Check.get(beans, "c"), "fails 3 at 3");
        Check.is("the same from the other end", Check.get(beans, "d"), "3");
        Check.is("of scope many", Check.get(beans, "e"), "fails 3 at 4");
        Check.is("on itself", Check.get(beans, "f"), "fails 3 at 5");
        Check.is("out of a bean within", Check.get(beans, "g"), "fails 3 at 7");
        Check.is("nothing is being made any more", Check.get(beans, "f"), "fails 3 at 5");
    }

    private static void depends() {
        WiredBeans beans = Check.family();
        Check.with(beans, "<bean id='a' abstract='yes'/><bean id='b' parent='a' depends='c'/>"
                + "<bean id='c' class='K1' scope='many'/><bean id='d' class='K0' depends='x'/>"
                + "<bean id='e' class='K0' depends='a'/><alias name='c' to='f'/><bean id='g' class='K2' depends='f'/>");
        Check.is("neither class nor factory, behind depends", Check.get(beans, "b"), "fails 4 at 1");
        Check.is("what it depends on was made", Check.events(beans), "1 0 1 0");
        Check.is("on nothing", Check.get(beans, "d"), "fails 1 at 3");
        Check.is("on an abstract one", Check.get(beans, "e"), "fails 2 at 4");
        Check.is("by an alias", Check.get(beans, "g"), "2");
    }

    private static void orderOfMaking() {
        WiredBeans beans = Check.family();
        beans.factory(3, 5, false, 1, 2, 8, 3, 0);
        beans.setter(0, 1, 4);
        Check.with(beans, "<bean id='a' class='K7' factory='f' method='f' depends='d' init='i'>"
                + "<arg at='1' value='text'/><arg><bean class='K0' init='j'/></arg>"
                + "<set name='b'><list><bean class='K2'/><value> v </value><null/><ref bean='a'/></list></set></bean>"
                + "<bean id='d' class='K2'/><bean id='f' class='K3'/>");
        Check.is("got", Check.get(beans, "a"), "3");
        Check.is("in order", Check.events(beans), "1 0 2 0/1 1 3 0/1 2 0 0/5 2 9 0/2 3 1 24/3 3 0 3002/3 3 1 1004"
                + "/1 4 2 0/4 3 1 2004/6 -1 0 3004/6 -1 1 1001/6 -1 2 -1/6 -1 3 3003/5 3 8 0");
    }

    private static void failures() {
        WiredBeans beans = Check.family();
        beans.constructor(0, 1, 0, 0, 0);
        beans.setter(1, 0, 0);
        Check.with(beans, "<bean id='a' class='K0'><arg value='x'/></bean>"
                + "<bean id='b' class='K1'><set name='b' ref='c'/></bean><bean id='c' class='K2'/>"
                + "<bean id='d' class='K1'><set name='a' ref='c'/></bean>"
                + "<bean id='e' class='K0'><arg ref='c'/><arg ref='n'/></bean>"
                + "<bean id='g' factory='c' method='x'><arg ref='n'/></bean><bean id='h' factory='n' method='x'/>"
                + "<bean id='i' class='K1'><set name='c' ref='n'/></bean><bean id='k' class='K1' method='q'/>");
        Check.is("none fits", Check.get(beans, "a"), "fails 5 at 0");
        Check.is("no setter, behind what it is set to", Check.get(beans, "b"), "fails 7 at 1");
        Check.is("its object came to be", Check.events(beans), "1 0 1 0/1 1 2 0");
        Check.is("can't be of its type", Check.get(beans, "d"), "fails 8 at 3");
        Check.is("an arg that is none, before none fits", Check.get(beans, "e"), "fails 1 at 4");
        Check.is("an arg that is none, before the factory's class", Check.get(beans, "g"), "fails 1 at 5");
        Check.is("no such factory bean", Check.get(beans, "h"), "fails 1 at 6");
        Check.is("a set that is none, before its setter", Check.get(beans, "i"), "fails 1 at 7");
        Check.is("no static factory", Check.get(beans, "k"), "fails 5 at 8");
        Check.is("failing does not close", beans.bean(2, 10), 1);
    }

    private static void sixtyObjects() {
        WiredBeans beans = Check.family();
        Check.with(beans, "<bean id='a' class='K0' scope='many'/><bean id='b' class='K0'><arg value='1'/></bean>");
        for (int i = 0; i < 60; i++) {
            Check.is("object " + i, Check.get(beans, "a"), "" + i);
        }
        Check.is("a sixty-first one", Check.get(beans, "a"), "fails 6 at 0");
        Check.is("what fits is looked for before", Check.get(beans, "b"), "fails 5 at 1");
        Check.is("no event", beans.events(), 60);
        beans.close();
        Check.is("objects stay when closed", Check.get(beans, "a"), "fails 6 at 0");
        Check.with(beans, "<bean id='a' class='K0' scope='many'/>");
        Check.is("a new document has room", Check.get(beans, "a"), "0");
    }

    private static void deep() {
        WiredBeans beans = Check.family();
        StringBuilder chain = new StringBuilder();
        for (int i = 0; i < 31; i++) {
            chain.append("<bean id='").append(letters(i)).append("' class='K0' depends='").append(letters(i + 1))
                    .append("'/>");
        }
        Check.with(beans, chain + "<bean id='" + letters(31) + "' class='K1'/>");
        Check.is("all of a long chain", Check.get(beans, "a"), "31");
    }

    private static String letters(int i) {
        return i < 26 ? "" + (char) ('a' + i) : "a" + (char) ('a' + i - 26);
    }
}
