/** Promise 7 with FAULT 2: which element may stand in which, how many of them, and which may have text. */
final class PlacementTest {
    /** Each element as it may stand anywhere that it may stand at all, but for bean, which differs in beans. */
    private static final String[] INNER = {"<beans/>", "<alias name='x' to='y'/>", "<bean class='K0'/>", "<arg value='1'/>",
        "<set name='s' value='1'/>", "<lookup name='l' bean='b'/>", "<list/>", "<value>v</value>", "<ref bean='b'/>",
        "<null/>", "<other/>", "<id/>", "<one/>"};

    private PlacementTest() {
    }

    public static void main(String[] args) {
        outermost();
        inner();
        leaves();
        justOne();
        items();
        fourthAndFifth();
        eighthAndNinth();
        secondAndThird();
        firstOfItsName();
        texts();
        eightyElements();
        theFirstOne();
        Check.end();
    }

    private static String answer(String marked) {
        return Check.read(new WiredBeans(), marked.replace("^", ""));
    }

    private static void right(String text) {
        Check.is("reading " + text, answer(text).startsWith("throws") ? answer(text) : "", "");
    }

    /** The element behind ^ is told. */
    private static void wrong(String marked) {
        Check.is("reading " + marked, answer(marked), "throws 2 at " + marked.indexOf('^'));
    }

    private static String inBean(String inner) {
        return "<beans><bean id='a' class='K0'>" + inner + "</bean></beans>";
    }

    private static boolean isAmong(String element, String names) {
        return names.contains(" " + element.substring(1, element.indexOf(element.contains(" ") ? " " : "/")) + " ")
                || element.startsWith("<value>") && names.contains(" value ");
    }

    /** "beans: the outermost one, and only this". */
    private static void outermost() {
        right("<beans></beans>");
        right("<beans/>");
        for (String element : INNER) {
            if (!element.equals("<beans/>")) {
                wrong("^" + element);
            }
        }
        wrong("^<bean id='a' class='K0'><beans/></bean>");
    }

    /** At # each of the elements: right if it is among these names, else it is told itself. */
    private static void only(String around, String names) {
        for (String element : INNER) {
            if (isAmong(element, names)) {
                right(around.replace("#", element));
            } else {
                wrong(around.replace("#", "^" + element));
            }
        }
    }

    private static void inner() {
        right("<beans><bean id='b' class='K0'/></beans>");
        wrong("<beans>^<bean class='K0'/></beans>");
        only("<beans>#</beans>", " alias ");
        only(inBean("#"), " arg set lookup ");
        only(inBean("<arg>#</arg>"), " value ref null list bean ");
        only(inBean("<set name='a'>#</set>"), " value ref null list bean ");
        only(inBean("<arg><list>#</list></arg>"), " value ref null bean ");
        only(inBean("<set name='a'><list><null/>#</list></set>"), " value ref null bean ");
        only(inBean("<arg><bean class='K0'>#</bean></arg>"), " arg set lookup ");
        wrong(inBean("<arg>^<bean id='b' class='K0'/></arg>"));
    }

    /** In an element that has none, even one is too many: then the outer one is told. */
    private static void leaves() {
        for (String element : INNER) {
            wrong("<beans>^<alias name='x' to='z'>" + element + "</alias></beans>");
            wrong(inBean("^<lookup name='x' bean='z'>" + element + "</lookup>"));
            wrong(inBean("<arg>^<value>" + element + "</value></arg>"));
            wrong(inBean("<arg>^<null>" + element + "</null></arg>"));
            wrong(inBean("<arg>^<ref bean='b'>" + element + "</ref></arg>"));
        }
    }

    /** "both: and just one of value, ref, or one element". */
    private static void justOne() {
        for (String start : new String[] {"arg", "arg at='1'", "arg type='int'", "set name='n'"}) {
            String name = start.substring(0, 3);
            right(inBean("<" + start + " value='1'/>"));
            right(inBean("<" + start + " ref='a'/>"));
            right(inBean("<" + start + "><null/></" + name + ">"));
            wrong(inBean("^<" + start + "/>"));
            wrong(inBean("^<" + start + "><!----></" + name + ">"));
            wrong(inBean("^<" + start + " value='1' ref='a'/>"));
            wrong(inBean("^<" + start + " value=''><null/></" + name + ">"));
            wrong(inBean("^<" + start + " ref='a'><null/></" + name + ">"));
            wrong(inBean("^<" + start + "><null/><null/></" + name + ">"));
            wrong(inBean("^<" + start + " value='1' ref='a'><null/></" + name + ">"));
        }
    }

    /** "list: ... at most 6 of value, ref, null, bean". */
    private static void items() {
        for (String item : new String[] {"<value/>", "<ref bean='b'/>", "<null/>", "<bean class='K0'/>"}) {
            for (int count = 0; count <= 6; count++) {
                right(inBean("<arg><list>" + item.repeat(count) + "</list></arg>"));
            }
            wrong(inBean("<arg>^<list>" + item.repeat(7) + "</list></arg>"));
        }
        right(inBean("<arg><list>" + "<null/>".repeat(6) + "</list></arg><arg><list>" + "<null/>".repeat(6) + "</list></arg>"));
        wrong(inBean("<set name='a'>^<list>" + "<value>v</value><null/>".repeat(3) + "<value/></list></set>"));
    }

    /** "an arg is at most the fourth in its bean". */
    private static void fourthAndFifth() {
        String arg = "<arg value='1'/>";
        for (int count = 0; count <= 4; count++) {
            right(inBean(arg.repeat(count)));
        }
        wrong(inBean(arg.repeat(4) + "^" + arg));
        wrong(inBean(arg.repeat(4) + "^" + arg + arg));
        wrong(inBean(arg + "<set name='a' value=''/>" + arg + "<lookup name='a' bean='b'/>" + arg + arg + "^" + arg));
        right("<beans><bean id='a' class='K0'>" + arg.repeat(4) + "</bean><bean id='b' parent='a'>" + arg.repeat(4)
                + "</bean></beans>");
        right(inBean(arg.repeat(3) + "<arg><bean class='K0'>" + arg.repeat(4) + "</bean></arg>"));
        wrong(inBean("<arg><bean class='K0'>" + arg.repeat(4) + "^" + arg + "</bean></arg>"));
    }

    private static String sets(char first, int count) {
        StringBuilder all = new StringBuilder();
        for (int i = 0; i < count; i++) {
            all.append("<set name='").append((char) (first + i)).append("' value=''/>");
        }
        return all.toString();
    }

    /** "a set at most the eighth". */
    private static void eighthAndNinth() {
        for (int count = 0; count <= 8; count++) {
            right(inBean(sets('s', count)));
        }
        wrong(inBean(sets('a', 8) + "^" + sets('z', 1)));
        wrong(inBean(sets('a', 4) + "<arg value='1'/>" + sets('e', 4) + "^" + sets('i', 2)));
        right("<beans><bean id='a' class='K0'>" + sets('a', 8) + "</bean><bean id='b' parent='a'>" + sets('i', 8)
                + "</bean></beans>");
    }

    /** "a lookup at most the second". */
    private static void secondAndThird() {
        String two = "<lookup name='a' bean='b'/><lookup name='z' bean='b'/>";
        right(inBean(two));
        wrong(inBean(two + "^<lookup name='c' bean='b'/>"));
        wrong(inBean(two + "<arg value='1'/>^<lookup name='c' bean='b'/><lookup name='d' bean='b'/>"));
        right("<beans><bean id='a' class='K0'>" + two + "</bean><bean id='b' parent='a'>" + two.replace("name='a", "name='c")
                + "</bean></beans>");
    }

    /** "and each the first with its name". */
    private static void firstOfItsName() {
        right(inBean("<set name='a' value='1'/><set name='b' value='1'/>"));
        wrong(inBean("<set name='a' value='1'/>^<set name='a' value='1'/>"));
        wrong(inBean("<set name='a' value='1'/><set name='b' ref='x'/><set name='c' ref='x'/>^<set name='a'><null/></set>"));
        right(inBean("<lookup name='a' bean='b'/><lookup name='b' bean='b'/>"));
        wrong(inBean("<lookup name='a' bean='b'/>^<lookup name='a' bean='c'/>"));
        wrong(inBean("<lookup name='a' bean='b'/><set name='a' value='1'/>^<lookup name='a' bean='c'/>"));
        right(inBean("<set name='a' value='1'/><lookup name='a' bean='b'/>"));
        right(inBean("<set name='a'><bean class='K0'><set name='a' value='1'/></bean></set>"));
        right("<beans><bean id='a' class='K0'><set name='a' value='1'/></bean>"
                + "<bean id='b' parent='a'><set name='a' value='1'/></bean></beans>");
    }

    /** "value: ... but text", "All others have no text"; white alone is none. */
    private static void texts() {
        String[] elements = {"^<beans>#</beans>", "<beans>^<alias name='x' to='y'>#</alias></beans>",
            "<beans>^<bean id='a' class='K0'>#</bean></beans>", inBean("^<arg value='1'>#</arg>"),
            inBean("^<arg>#<null/></arg>"), inBean("^<set name='a' ref='b'>#</set>"), inBean("^<set name='a'><null/>#</set>"),
            inBean("^<lookup name='a' bean='b'>#</lookup>"), inBean("<arg>^<list>#</list></arg>"),
            inBean("<arg>^<list>#<null/></list></arg>"), inBean("<arg>^<ref bean='b'>#</ref></arg>"),
            inBean("<arg>^<null>#</null></arg>"), inBean("<arg>^<bean class='K0'>#</bean></arg>")};
        for (String marked : elements) {
            for (String none : new String[] {"", " ", "\n", "&#32;", " &#032;\n<!-- x -->\n", " ".repeat(40)}) {
                right(marked.replace("^", "").replace("#", none));
            }
            for (String some : new String[] {"x", "&lt;", "&#33;", ">", " . ", "abcdefghijklmnopqrstuvwx"}) {
                wrong(marked.replace("#", some));
            }
        }
        for (String any : new String[] {"", " ", "x", "&lt;", " abcdefghijklmnopqrstuvwx&#32;"}) {
            right(inBean("<arg><value>" + any + "</value></arg>"));
        }
    }

    /** "there are at most 80": a document without fault has room for as many. */
    private static void eightyElements() {
        StringBuilder inner = new StringBuilder();
        String list = "><list>" + "<null/>".repeat(6) + "</list></";
        for (int i = 0; i < 4; i++) {
            inner.append("<arg").append(list).append("arg>");
        }
        for (char name = 'a'; name < 'f'; name++) {
            inner.append("<set name='").append(name).append("'").append(list).append("set>");
        }
        String four = "<set name='x'><list><null/><null/><null/><null/>";
        right(inBean(inner + four + "</list></set>"));
        Check.is("80 elements", answer(inBean(inner + four + "</list></set>")), "1");
        String tooMany = inBean(inner + four + "^<null/></list></set>");
        Check.is("81 elements", answer(tooMany), "throws 1 at " + tooMany.indexOf('^'));
    }

    /** "at the < of the first element that is not as follows (... in the order in which they begin)". */
    private static void theFirstOne() {
        wrong("^<beans>x<other/></beans>");
        wrong("<beans>^<bean id='a'><arg/></bean><other/></beans>");
        wrong("<beans><bean id='a' class='K0'>^<arg/></bean><other/></beans>");
        wrong("<beans><bean id='a' class='K0'><arg>^<list>" + "<other/>".repeat(7) + "</list></arg></bean></beans>");
        wrong("<beans><bean id='a' class='K0'><arg><list>^<other/></list></arg><arg/></bean></beans>");
        wrong("\n<!-- <other/> -->\n^<bean/>");
    }
}
