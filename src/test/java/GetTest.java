/** Promise 10: names, scopes, and the order in which a bean is made. */
final class GetTest {
    private GetTest() {
    }

    public static void main(String[] args) {
        names();
        allBytes();
        aliases();
        ringOfAliases();
        scopes();
        cycles();
        whileBeingMade();
        depends();
        neitherClassNorFactory();
        orderOfMaking();
        failures();
        afterAFailure();
        sixtyObjects();
        sixtyWithin();
        deep();
        deepThroughArgs();
        deepWithin();
        deepThroughFactories();
        argsStayWhileOthersAreMade();
        fullListsStay();
        Check.end();
    }

    private static void names() {
        WiredBeans beans = Check.family();
        Check.is("without a document", Check.get(beans, "a"), "no document");
        Check.with(beans, "<bean id='a' class='K0'/><bean id='ab' class='K1'/><bean id='abcdefgh' class='K2'/>");
        Check.is("one letter", beans.get('a'), 0);
        Check.is("zeros are left out", beans.get((long) 'a' << 56 | 'b'), 1);
        Check.is("eight letters", Check.get(beans, "abcdefgh"), "2");
        Check.is("an object again", beans.get((long) 'a' << 40), 0);
        Check.is("no name", Check.get(beans, ""), "fails 1 at -1");
        Check.is("another name", Check.get(beans, "ba"), "fails 1 at -1");
        Check.is("no letters", Check.get(beans, "A"), "fails 1 at -1");
        Check.is("high bytes", Check.get(beans, "\u00e1\u00ff"), "fails 1 at -1");
    }

    /** "8 bytes of name, the highest first, 0 left out". */
    private static void allBytes() {
        WiredBeans beans = Check.family();
        Check.with(beans, "<bean id='a' class='K0'/><bean id='aaaaaaaa' class='K1'/><bean id='aaaaaaa' class='K2'/>"
                + "<bean id='zy' class='K3'/>");
        Check.is("eight", beans.get(0x6161616161616161L), 0);
        Check.is("seven", beans.get(0x6161616100616161L), 1);
        for (int shift = 0; shift < 64; shift += 8) {
            Check.is("one at " + shift, beans.get((long) 'a' << shift), 2);
        }
        Check.is("zeros between", beans.get((long) 'z' << 56 | (long) 'y' << 48), 3);
        Check.is("the other way round", Check.get(beans, "yz"), "fails 1 at -1");
        for (long name : new long[] {0, -1, Long.MIN_VALUE, Long.MAX_VALUE, 'a' + 128, 'a' - 32, 0x6161616161616162L,
            (long) 'a' << 56 | 1, 96, 123, '\n', ' '}) {
            Check.is("name " + name, Check.get(beans, name), "fails 1 at -1");
        }
    }

    private static void aliases() {
        WiredBeans beans = Check.family();
        StringBuilder chain = new StringBuilder("<bean id='z' class='K0'/><alias name='z' to='aa'/>");
        for (char c = 'a'; c < 'v'; c++) {
            chain.append("<alias name='a").append(c).append("' to='a").append((char) (c + 1)).append("'/>");
        }
        Check.with(beans, chain.append("<alias name='x' to='y'/><alias name='y' to='x'/>").toString());
        Check.is("one on", Check.get(beans, "aa"), "0");
        Check.is("twenty on", Check.get(beans, "at"), "0");
        Check.is("twenty-one on", Check.get(beans, "au"), "fails 1 at -1");
        Check.is("a ring", Check.get(beans, "x"), "fails 1 at -1");
    }

    /** An alias may call what stands behind it, nothing, or itself; each name that a bean tells is called so. */
    private static void ringOfAliases() {
        WiredBeans beans = Check.family();
        beans.setter(0, 0, 8);
        beans.factory(0, 0, false, 1, 0, 0, 0, 0);
        Check.with(beans, "<alias name='b' to='a'/><alias name='k' to='b'/><alias name='r' to='r'/><alias name='n' to='o'/>"
                + "<bean id='k' class='K0'/><bean id='c' class='K0' depends='a'><set name='a' ref='a'/>"
                + "<lookup name='l' bean='a'/></bean><bean id='d' factory='a' method='a'/>"
                + "<bean id='e' class='K0' depends='r'/>");
        Check.is("two on", Check.get(beans, "a"), "0");
        Check.is("itself", Check.get(beans, "r"), "fails 1 at -1");
        Check.is("nothing", Check.get(beans, "o"), "fails 1 at -1");
        Check.is("depends and ref", Check.get(beans, "c"), "1");
        Check.is("factory", Check.get(beans, "d"), "2");
        Check.is("lookup", Check.call(beans, 1, 'l'), "0");
        Check.is("depends on a ring", Check.get(beans, "e"), "fails 1 at 3");
        Check.is("events", Check.events(beans), "1 0 0 0/1 1 0 0/4 1 0 3000/2 2 1 0");
    }

    private static void scopes() {
        WiredBeans beans = Check.family();
        beans.constructor(0, 2, 8, 8, 0);
        beans.constructor(3, 1, 8, 0, 0);
        Check.with(beans, "<bean id='m' class='K1' scope='many'/><bean id='o' class='K2'/>"
                + "<bean id='a' class='K0'><arg ref='m'/><arg ref='m'/></bean>"
                + "<bean id='b' class='K0'><arg ref='o'/><arg ref='o'/></bean>"
                + "<bean id='c' class='K3' scope='many'><arg><bean class='K0'/></arg></bean>"
                + "<bean id='n' abstract='yes' class='K0'/>");
        Check.is("one of many", Check.get(beans, "m"), "0");
        Check.is("another of many", Check.get(beans, "m"), "1");
        Check.is("with many", Check.get(beans, "a"), "4");
        Check.is("with one", Check.get(beans, "b"), "6");
        Check.is("a bean within is made", Check.get(beans, "c"), "8");
        Check.is("a bean within is made again", Check.get(beans, "c"), "10");
        Check.is("an abstract one", Check.get(beans, "n"), "fails 2 at -1");
        Check.is("made once", Check.get(beans, "b"), "6");
        Check.is("events", Check.events(beans), "1 0 1 0/1 1 1 0/1 2 1 0/1 3 1 0/1 4 0 1/3 4 0 3002/3 4 1 3003"
                + "/1 5 2 0/1 6 0 1/3 6 0 3005/3 6 1 3005/1 7 0 0/1 8 3 1/3 8 0 3007/1 9 0 0/1 10 3 1/3 10 0 3009");
    }

    private static void cycles() {
        WiredBeans beans = Check.family();
        beans.setter(0, 0, 8);
        beans.constructor(1, 1, 8, 0, 0);
        Check.with(beans, "<bean id='a' class='K0'><set name='a' ref='b'/></bean>"
                + "<bean id='b' class='K0'><set name='a' ref='a'/></bean>"
                + "<bean id='c' class='K1'><arg ref='d'/></bean><bean id='d' class='K0'><set name='a' ref='c'/></bean>"
                + "<bean id='e' class='K0' scope='many'><set name='a' ref='e'/></bean>"
                + "<bean id='f' class='K0' depends='f'/>"
                + "<bean id='g' class='K1'><arg><bean class='K0'><set name='a' ref='g'/></bean></arg></bean>");
        Check.is("through setters", Check.get(beans, "a"), "0");
        Check.is("both made", beans.bean(0, 10) + beans.bean(1, 10), 2);
        Check.is("events", Check.events(beans), "1 0 0 0/1 1 0 0/4 1 0 3000/4 0 0 3001");
        Check.is("through a constructor", Check.get(beans, "c"), "fails 3 at 3");
        Check.is("the same from the other end", Check.get(beans, "d"), "3");
        Check.is("of scope many", Check.get(beans, "e"), "fails 3 at 4");
        Check.is("on itself", Check.get(beans, "f"), "fails 3 at 5");
        Check.is("out of a bean within", Check.get(beans, "g"), "fails 3 at 7");
        Check.is("nothing is being made any more", Check.get(beans, "f"), "fails 3 at 5");
    }

    /** "if it is being made: FAILURE 3 if its object has not come to be, else that object": at each step of making. */
    private static void whileBeingMade() {
        WiredBeans beans = Check.family();
        beans.setter(0, 0, 8);
        beans.setter(0, 1, 4);
        beans.constructor(0, 1, 8, 0, 0);
        beans.constructor(0, 1, 4, 0, 0);
        beans.factory(0, 0, false, 1, 0, 0, 0, 0);
        Check.with(beans, "<bean id='a' class='K0' depends='a'/><bean id='b' class='K0'><arg ref='b'/></bean>"
                + "<bean id='c' class='K0'><arg><list><ref bean='c'/></list></arg></bean>"
                + "<bean id='d' factory='d' method='a'/><bean id='e' class='K0'><set name='a' ref='e'/></bean>"
                + "<bean id='f' class='K0'><set name='b'><list><ref bean='f'/></list></set></bean>"
                + "<bean id='g' class='K0' scope='many'><set name='a'><bean class='K0' depends='g'/></set></bean>"
                + "<bean id='h' class='K0'><set name='a'><bean class='K0' depends='h'/></set></bean>"
                + "<bean id='i' class='K0'><set name='a'><bean class='K1'><set name='a' ref='j'/></bean></set></bean>"
                + "<bean id='j' parent='i'/>");
        Check.is("in depends", Check.get(beans, "a"), "fails 3 at 0");
        Check.is("in an arg", Check.get(beans, "b"), "fails 3 at 1");
        Check.is("in a list of an arg", Check.get(beans, "c"), "fails 3 at 2");
        Check.is("in factory", Check.get(beans, "d"), "fails 3 at 3");
        Check.is("no object came to be", beans.object(0, 0), Check.NONE);
        Check.is("in a set", Check.get(beans, "e"), "0");
        Check.is("in a list of a set", Check.get(beans, "f"), "1");
        Check.is("of scope many, in a set", Check.get(beans, "g"), "fails 3 at 7");
        Check.is("its object had come to be", beans.object(2, 1), 6);
        Check.is("of scope one, in a bean within", Check.get(beans, "h"), "3");
        Check.is("a bean within that comes to itself", Check.get(beans, "i"), "fails 3 at 12");
    }

    private static void depends() {
        WiredBeans beans = Check.family();
        Check.with(beans, "<bean id='a' abstract='yes'/><bean id='b' parent='a' depends='c'/>"
                + "<bean id='c' class='K1' scope='many'/><bean id='d' class='K0' depends='x'/>"
                + "<bean id='e' class='K0' depends='a'/><alias name='c' to='f'/><bean id='g' class='K2' depends='f'/>");
        Check.is("neither class nor factory, behind depends", Check.get(beans, "b"), "fails 4 at 1");
        Check.is("what it depends on was made", Check.events(beans), "1 0 1 0");
        Check.is("on nothing", Check.get(beans, "d"), "fails 1 at 3");
        Check.is("on an abstract one", Check.get(beans, "e"), "fails 2 at 4");
        Check.is("by an alias", Check.get(beans, "g"), "2");
    }

    /** "Then FAILURE 4 if it has neither a class nor a factory (behind depends)", ahead of factory and args. */
    private static void neitherClassNorFactory() {
        WiredBeans beans = Check.family();
        beans.factory(0, 0, true, 1, 0, 0, 0, 0);
        beans.factory(0, 0, false, 2, 0, 0, 0, 0);
        Check.with(beans, "<bean id='p' abstract='yes'/><bean id='m' abstract='yes' method='a'/>"
                + "<bean id='a' parent='p'><arg ref='none'/></bean><bean id='b' parent='m' depends='none'/>"
                + "<bean id='c' parent='m'/><bean id='d' parent='m' class='K0'/>"
                + "<bean id='e' parent='p' factory='d' method='a'/><bean id='f' parent='p' class='K2'/>");
        Check.is("neither, though its arg is none", Check.get(beans, "a"), "fails 4 at 2");
        Check.is("depends goes ahead", Check.get(beans, "b"), "fails 1 at 3");
        Check.is("a method alone", Check.get(beans, "c"), "fails 4 at 4");
        Check.is("a method and a class", Check.get(beans, "d"), "0");
        Check.is("an object's factory", Check.get(beans, "e"), "1");
        Check.is("a class alone", Check.get(beans, "f"), "2");
        Check.is("events", Check.events(beans), "2 0 1 0/2 1 2 1/1 2 2 0");
    }

    private static void orderOfMaking() {
        WiredBeans beans = Check.family();
        beans.factory(3, 5, false, 1, 2, 8, 3, 0);
        beans.setter(0, 1, 4);
        Check.with(beans, "<bean id='a' class='K7' factory='f' method='f' depends='d' init='i'>"
                + "<arg at='1' value='text'/><arg><bean class='K0' init='j'/></arg>"
                + "<set name='b'><list><bean class='K2'/><value> v </value><null/><ref bean='a'/></list></set></bean>"
                + "<bean id='d' class='K2'/><bean id='f' class='K3'/>");
        Check.is("got", Check.get(beans, "a"), "3");
        Check.is("in order", Check.events(beans), "1 0 2 0/1 1 3 0/1 2 0 0/5 2 9 0/2 3 1 24/3 3 0 3002/3 3 1 1004"
                + "/1 4 2 0/4 3 1 2004/6 -1 0 3004/6 -1 1 1001/6 -1 2 -1/6 -1 3 3003/5 3 8 0");
    }

    private static void failures() {
        WiredBeans beans = Check.family();
        beans.constructor(0, 1, 0, 0, 0);
        beans.setter(1, 0, 0);
        Check.with(beans, "<bean id='a' class='K0'><arg value='x'/></bean>"
                + "<bean id='b' class='K1'><set name='b' ref='c'/></bean><bean id='c' class='K2'/>"
                + "<bean id='d' class='K1'><set name='a' ref='c'/></bean>"
                + "<bean id='e' class='K0'><arg ref='c'/><arg ref='n'/></bean>"
                + "<bean id='g' factory='c' method='x'><arg ref='n'/></bean><bean id='h' factory='n' method='x'/>"
                + "<bean id='i' class='K1'><set name='c' ref='n'/></bean><bean id='k' class='K1' method='q'/>");
        Check.is("none fits", Check.get(beans, "a"), "fails 5 at 0");
        Check.is("no setter, behind what it is set to", Check.get(beans, "b"), "fails 7 at 1");
        Check.is("its object came to be", Check.events(beans), "1 0 1 0/1 1 2 0");
        Check.is("can't be of its type", Check.get(beans, "d"), "fails 8 at 3");
        Check.is("an arg that is none, before none fits", Check.get(beans, "e"), "fails 1 at 4");
        Check.is("an arg that is none, before the factory's class", Check.get(beans, "g"), "fails 1 at 5");
        Check.is("no such factory bean", Check.get(beans, "h"), "fails 1 at 6");
        Check.is("a set that is none, before its setter", Check.get(beans, "i"), "fails 1 at 7");
        Check.is("no static factory", Check.get(beans, "k"), "fails 5 at 8");
        Check.is("failing does not close", beans.bean(2, 10), 1);
    }

    /** "A failure ends all: what was being made is not being made any more; objects and events stay." */
    private static void afterAFailure() {
        WiredBeans beans = Check.family();
        beans.setter(0, 0, 8);
        beans.setter(0, 1, 3);
        Check.with(beans, "<bean id='a' class='K0' init='i' destroy='d'><set name='a' ref='b'/><set name='c' value=''/></bean>"
                + "<bean id='b' class='K1' init='j' destroy='e'><set name='a' ref='a'/></bean>");
        Check.is("fails", Check.get(beans, "a"), "fails 7 at 0");
        Check.is("events stay", Check.events(beans), "1 0 0 0/1 1 1 0/4 1 0 3000/5 1 9 0/4 0 0 3001");
        Check.is("objects stay", beans.object(0, 0) + " " + beans.object(1, 0) + " " + beans.object(2, 0), "0 1 -1");
        Check.is("made or not", beans.bean(0, 10) + " " + beans.bean(1, 10), "0 1");
        Check.is("what was made is as it was", Check.get(beans, "b"), "1");
        Check.is("the other one comes to be anew", Check.get(beans, "a"), "fails 7 at 0");
        Check.is("a third object", beans.object(2, 1), 0);
        beans.setter(0, 2, 3);
        Check.is("and once more", Check.get(beans, "a"), "3");
        Check.is("closed", beans.close(), 13);
        Check.is("in the reverse order", Check.events(beans).substring(Check.events(beans).indexOf("/7")),
                "/7 3 3 0/7 1 4 0");
    }

    private static void sixtyObjects() {
        WiredBeans beans = Check.family();
        Check.with(beans, "<bean id='a' class='K0' scope='many'/><bean id='b' class='K0'><arg value='1'/></bean>");
        for (int i = 0; i < 60; i++) {
            Check.is("object " + i, Check.get(beans, "a"), "" + i);
        }
        Check.is("a sixty-first one", Check.get(beans, "a"), "fails 6 at 0");
        Check.is("what fits is looked for before", Check.get(beans, "b"), "fails 5 at 1");
        Check.is("no event", beans.events(), 60);
        beans.close();
        Check.is("objects stay when closed", Check.get(beans, "a"), "fails 6 at 0");
        Check.with(beans, "<bean id='a' class='K0' scope='many'/>");
        Check.is("a new document has room", Check.get(beans, "a"), "0");
    }

    /** "FAILURE 6 if there are 60": the sixtieth comes to be within another one, the sixty-first does not. */
    private static void sixtyWithin() {
        WiredBeans beans = Check.family();
        beans.setter(0, 0, 8);
        beans.constructor(1, 1, 8, 0, 0);
        Check.with(beans, "<bean id='a' class='K0' scope='many'/><bean id='b' class='K0' destroy='d'>"
                + "<set name='a'><bean class='K0'/></set></bean><bean id='c' class='K1'><arg ref='a'/></bean>"
                + "<bean id='e' class='K2' destroy='f'/>");
        for (int i = 0; i < 57; i++) {
            Check.get(beans, "a");
        }
        Check.is("58 and 59", Check.get(beans, "b"), "57");
        Check.is("an object within", beans.object(58, 1), 2);
        Check.is("no room for both", Check.get(beans, "c"), "fails 6 at 3");
        Check.is("the sixtieth", beans.object(59, 1), 0);
        Check.is("no other one", beans.object(60, 1), Check.NONE);
        Check.is("made is made", Check.get(beans, "b"), "57");
        Check.is("refresh has no room", Check.refresh(beans), "fails 6 at 1");
        Check.is("nothing came to be", beans.events(), 0);
        Check.is("a failure of what is no bean comes first", Check.get(beans, "none"), "fails 1 at -1");
        Check.is("still none", Check.get(beans, "e"), "fails 6 at 4");
    }

    private static void deep() {
        WiredBeans beans = Check.family();
        StringBuilder chain = new StringBuilder();
        for (int i = 0; i < 31; i++) {
            chain.append("<bean id='").append(letters(i)).append("' class='K0' depends='").append(letters(i + 1))
                    .append("'/>");
        }
        Check.with(beans, chain + "<bean id='" + letters(31) + "' class='K1'/>");
        Check.is("all of a long chain", Check.get(beans, "a"), "31");
    }

    /** As many beans as a text can hold, each an arg of the one before it. */
    private static void deepThroughArgs() {
        WiredBeans beans = Check.family();
        beans.constructor(0, 1, 8, 0, 0);
        StringBuilder chain = new StringBuilder();
        for (int i = 0; i < 24; i++) {
            chain.append("<bean id='").append(letters(i)).append("' class='K0'><arg ref='").append(letters(i + 1))
                    .append("'/></bean>");
        }
        Check.with(beans, chain + "<bean id='" + letters(24) + "' class='K1'/>");
        Check.is("all of them", Check.get(beans, "a"), "24");
        Check.is("the innermost first", beans.object(0, 1), 24);
    }

    /** Beans within beans, as deep as elements may be, one such line behind the other. */
    private static void deepWithin() {
        WiredBeans beans = Check.family();
        beans.constructor(0, 1, 8, 0, 0);
        StringBuilder chain = new StringBuilder();
        for (int i = 0; i < 10; i++) {
            chain.append("<bean id='").append(letters(i)).append("' class='K0'><arg><bean class='K0'><arg><bean class='K0'")
                    .append(i == 9 ? "" : " depends='" + letters(i + 1) + "'").append("/></arg></bean></arg></bean>");
        }
        Check.with(beans, chain.toString());
        Check.is("all of them", Check.get(beans, "a"), "29");
        Check.is("the last line first", beans.object(0, 1) + " " + beans.object(1, 1) + " " + beans.object(2, 1), "29 28 27");
    }

    private static void deepThroughFactories() {
        WiredBeans beans = Check.family();
        beans.factory(0, 0, false, 0, 0, 0, 0, 0);
        StringBuilder chain = new StringBuilder();
        for (int i = 0; i < 29; i++) {
            chain.append("<bean id='").append(letters(i)).append("' factory='").append(letters(i + 1))
                    .append("' method='a'/>");
        }
        Check.with(beans, chain + "<bean id='" + letters(29) + "' class='K0'/>");
        Check.is("all of them", Check.get(beans, "a"), "29");
        Check.is("the last one", Check.events(beans).endsWith("/2 29 0 0"), true);
    }

    /** "Its args are worked out, in order": what was worked out stays while later ones are made with args of their own. */
    private static void argsStayWhileOthersAreMade() {
        WiredBeans beans = Check.family();
        beans.constructor(0, 2, 8, 8, 0);
        beans.constructor(0, 2, 4, 4, 0);
        beans.setter(0, 0, 4);
        Check.with(beans, "<bean id='k' class='K1'/><bean id='l' class='K2'/><bean id='m' class='K0' scope='many'>"
                + "<arg ref='l'/><arg ref='l'/></bean>"
                + "<bean id='a' class='K0'><arg ref='k'/><arg><bean class='K0'><arg ref='l'/><arg ref='k'/></bean></arg></bean>"
                + "<bean id='b' class='K0'><arg ref='k'/><arg ref='m'/></bean>"
                + "<bean id='c' class='K0'><arg><list><ref bean='k'/><ref bean='m'/></list></arg><arg><list><ref bean='m'/>"
                + "<null/><ref bean='k'/></list></arg></bean>"
                + "<bean id='d' class='K1'><set name='a'><list><ref bean='k'/><ref bean='m'/><ref bean='l'/></list></set></bean>");
        Check.is("k", Check.get(beans, "k"), "0");
        Check.is("l", Check.get(beans, "l"), "1");
        Check.is("a bean within", Check.get(beans, "a"), "3");
        Check.is("a bean of many", Check.get(beans, "b"), "5");
        Check.is("in lists", Check.get(beans, "c"), "8");
        Check.is("in a set", Check.get(beans, "d"), "9");
        Check.is("events", Check.events(beans), "1 0 1 0/1 1 2 0/1 2 0 1/3 2 0 3001/3 2 1 3000/1 3 0 1/3 3 0 3000/3 3 1 3002"
                + "/1 4 0 1/3 4 0 3001/3 4 1 3001/1 5 0 1/3 5 0 3000/3 5 1 3004"
                + "/1 6 0 1/3 6 0 3001/3 6 1 3001/1 7 0 1/3 7 0 3001/3 7 1 3001"
                + "/1 8 0 2/3 8 0 2002/6 -1 0 3000/6 -1 1 3006/3 8 1 2003/6 -1 0 3007/6 -1 1 -1/6 -1 2 3000"
                + "/1 9 1 0/1 10 0 1/3 10 0 3001/3 10 1 3001/4 9 0 2003/6 -1 0 3000/6 -1 1 3010/6 -1 2 3001");
    }

    /** The same with full lists, of which the last part of the last one is a bean with a full list of its own, and so on. */
    private static void fullListsStay() {
        WiredBeans beans = new WiredBeans();
        beans.constructor(0, 3, 4, 4, 4);
        beans.constructor(1, 2, 4, 9, 0);
        beans.constructor(1, 1, 4, 0, 0);
        String last = list(3).replace("<value>" + "x".repeat(8) + "</value>", "<ref bean='b'/>");
        Check.with(beans, "<bean id='a' class='K0'><arg>" + list(0) + "</arg><arg>" + list(6) + "</arg><arg>" + last
                + "</arg></bean><bean id='b' class='K1'><arg>" + list(12) + "</arg><arg ref='c'/></bean>"
                + "<bean id='c' class='K1'><arg>" + list(18) + "</arg></bean>");
        Check.is("the innermost first", Check.get(beans, "a"), "2");
        Check.is("events", Check.events(beans), "1 0 1 1/3 0 0 2006" + parts(18) + "/1 1 1 0/3 1 0 2006" + parts(12)
                + "/3 1 1 3000/1 2 0 0/3 2 0 2006" + parts(0) + "/3 2 1 2006" + parts(6) + "/3 2 2 2006"
                + parts(3).replace("1008", "3001"));
    }

    /** Six texts, the first one of that length, each longer by one. */
    private static String list(int length) {
        StringBuilder all = new StringBuilder("<list>");
        for (int i = 0; i < 6; i++) {
            all.append("<value>").append("x".repeat(length + i)).append("</value>");
        }
        return all.append("</list>").toString();
    }

    private static String parts(int length) {
        StringBuilder all = new StringBuilder();
        for (int i = 0; i < 6; i++) {
            all.append("/6 -1 ").append(i).append(" ").append(1000 + length + i);
        }
        return all.toString();
    }

    private static String letters(int i) {
        return i < 26 ? "" + (char) ('a' + i) : "a" + (char) ('a' + i - 26);
    }
}
