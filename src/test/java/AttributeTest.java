/** Promise 7 with FAULT 2: which attributes each element may and must have, and which values these may have. */
final class AttributeTest {
    /** Each attribute that some element may have, with a value that is right for all of them. */
    private static final String[][] ATTRIBUTES = {
        {"id", "q"}, {"class", "K0"}, {"parent", "p"}, {"abstract", "no"}, {"scope", "one"}, {"lazy", "no"},
        {"factory", "f"}, {"method", "m"}, {"init", "i"}, {"destroy", "d"}, {"depends", "e"}, {"name", "n"},
        {"to", "t"}, {"at", "0"}, {"type", "int"}, {"value", "v"}, {"ref", "r"}, {"bean", "b"}, {"other", "o"},
        {"text", "t"}, {"yes", "yes"}};

    private AttributeTest() {
    }

    public static void main(String[] args) {
        which();
        needed();
        names();
        letters();
        classes();
        places();
        words();
        anything();
        Check.end();
    }

    /** Whether the element behind ^ in a document is told as fault 2; another fault than that is a mistake. */
    private static boolean isTold(String marked) {
        int place = marked.indexOf('^');
        WiredBeans beans = new WiredBeans();
        String answer = Check.read(beans, marked.substring(0, place) + marked.substring(place + 1));
        boolean isRight = !answer.startsWith("throws");
        Check.is("what is told of " + marked, isRight ? "" : answer, isRight ? "" : "throws 2 at " + place);
        return !isRight;
    }

    private static void right(String marked) {
        Check.is(marked + " is wrong", isTold(marked), false);
    }

    private static void wrong(String marked) {
        Check.is(marked + " is wrong", isTold(marked), true);
    }

    /** The marked element within what it needs around it, with p as a bean that may be a parent. */
    private static String inBeans(String element) {
        return "<beans>" + element + "<bean id='p' class='K0'/></beans>";
    }

    private static String inBean(String element) {
        return inBeans("<bean id='a' class='K0'>" + element + "</bean>");
    }

    private static String inArg(String element) {
        return inBean("<arg>" + element + "</arg>");
    }

    private static void which() {
        only("^<beans#></beans>", "", "");
        only(inBeans("^<alias#/>"), " name='x' to='y'", " name to ");
        only(inBeans("^<bean#/>"), " id='a' class='K0'",
                " id class parent abstract scope lazy factory method init destroy depends ");
        only(inArg("^<bean#/>"), " class='K0'", " class parent scope factory method init destroy depends ");
        only(inBean("<set name='s'>^<bean#/></set>"), " class='K0'",
                " class parent scope factory method init destroy depends ");
        only(inArg("<list>^<bean#/></list>"), " class='K0'",
                " class parent scope factory method init destroy depends ");
        only(inBean("^<arg#/>"), " value='x'", " at type value ");
        only(inBean("^<arg#/>"), " ref='x'", " at type ref ");
        only(inBean("^<arg#><null/></arg>"), "", " at type ");
        only(inBean("^<set#/>"), " name='x' value='x'", " name value ");
        only(inBean("^<set#/>"), " name='x' ref='x'", " name ref ");
        only(inBean("^<set#><null/></set>"), " name='x'", " name ");
        only(inBean("^<lookup#/>"), " name='x' bean='y'", " name bean ");
        only(inArg("^<list#/>"), "", "");
        only(inArg("^<value#/>"), "", "");
        only(inArg("^<null#/>"), "", "");
        only(inArg("^<ref#/>"), " bean='x'", " bean ");
    }

    /** The element is right with these attributes; with one more it is right if that one is among the others. */
    private static void only(String marked, String attributes, String others) {
        right(marked.replace("#", attributes));
        for (String[] more : ATTRIBUTES) {
            if (attributes.contains(" " + more[0] + "=")) {
                continue;
            }
            String method = more[0].equals("factory") ? " method='m'" : "";
            String with = marked.replace("#", attributes + " " + more[0] + "='" + more[1] + "'" + method);
            Check.is(with + " is wrong", isTold(with), !others.contains(" " + more[0] + " "));
        }
    }

    /** Each element with all that it must have, and without one of these. */
    private static void needed() {
        right(inBeans("^<alias name='a' to='b'/>"));
        wrong(inBeans("^<alias name='a'/>"));
        wrong(inBeans("^<alias to='a'/>"));
        right(inBean("^<set name='a' value=''/>"));
        wrong(inBean("^<set value=''/>"));
        wrong(inBean("^<set name='a'/>"));
        right(inBean("^<arg value=''/>"));
        wrong(inBean("^<arg/>"));
        right(inBean("^<lookup name='a' bean='b'/>"));
        wrong(inBean("^<lookup name='a'/>"));
        wrong(inBean("^<lookup bean='b'/>"));
        right(inArg("^<ref bean='b'/>"));
        wrong(inArg("^<ref/>"));
        for (String one : new String[] {"class='K0'", "parent='p'", "factory='f' method='m'"}) {
            right(inBeans("^<bean id='a' " + one + "/>"));
            wrong(inBeans("^<bean " + one + "/>"));
            right(inArg("^<bean " + one + "/>"));
            right(inBeans("^<bean id='a' abstract='no' " + one + "/>"));
        }
        right(inBeans("^<bean id='a' abstract='yes'/>"));
        wrong(inBeans("^<bean abstract='yes'/>"));
        wrong(inBeans("^<bean id='a' abstract='no'/>"));
        wrong(inBeans("^<bean id='a' scope='one' lazy='yes' method='m' init='i' destroy='d' depends='e'/>"));
        wrong(inArg("^<bean/>"));
        wrong(inArg("^<bean method='m'/>"));
        for (String with : new String[] {"class='K0'", "parent='p'", "abstract='yes'"}) {
            wrong(inBeans("^<bean id='a' factory='f' " + with + "/>"));
            right(inBeans("^<bean id='a' method='m' " + with + "/>"));
            right(inBeans("^<bean id='a' factory='f' method='m' " + with + "/>"));
        }
        wrong(inArg("^<bean factory='f'/>"));
    }

    private static void values(String marked, String[] rights, String[] wrongs) {
        for (String value : rights) {
            right(marked.replace("#", value));
        }
        for (String value : wrongs) {
            wrong(marked.replace("#", value));
        }
    }

    /** "id, to, name of alias, parent, factory, depends, bean, ref: 1 .. 8 letters a .. z". */
    private static void names() {
        String[] right = {"a", "z", "az", "abcdefgh", "zzzzzzzz", "&#97;", "&#122;z"};
        String[] wrong = {"", "abcdefghi", "abcdefghijklmnopqrstuvwx", "`", "{", "A", "Z", "a`", "{z", "a b", " a", "a ", "\n",
            "1", "a1", "a-", "&lt;", "&#96;", "&#123;", "abcdefg{", "`bcdefgh"};
        for (String marked : new String[] {inBeans("^<bean id='#' class='K0'/>"), inBeans("^<alias name='#' to='q'/>"),
            inBeans("^<alias name='q' to='#'/>"), inBeans("^<bean id='q' factory='#' method='m'/>"),
            inBeans("^<bean id='q' class='K0' depends='#'/>"), inBean("^<arg ref='#'/>"), inBean("^<set name='a' ref='#'/>"),
            inBean("^<lookup name='a' bean='#'/>"), inArg("^<ref bean='#'/>"), inArg("<list>^<ref bean='#'/></list>"),
            inArg("^<bean class='K0' depends='#'/>"), inArg("^<bean factory='#' method='m'/>")}) {
            values(marked, right, wrong);
        }
        values("<beans>^<bean id='q' parent='#'/></beans>", new String[0], wrong);
        for (String name : right) {
            right("<beans>^<bean id='q' parent='#'/><bean id='#' class='K0'/></beans>".replace("#", name));
        }
    }

    /** "method, init, destroy, name of set and lookup: one letter a .. z". */
    private static void letters() {
        String[] right = {"a", "m", "z", "&#97;", "&#122;"};
        String[] wrong = {"", "`", "{", "aa", "zz", "A", "Z", "0", " ", "a ", "\n", "&gt;", "&#96;", "&#123;"};
        for (String marked : new String[] {inBeans("^<bean id='q' class='K0' method='#'/>"),
            inBeans("^<bean id='q' class='K0' init='#'/>"), inBeans("^<bean id='q' class='K0' destroy='#'/>"),
            inBean("^<set name='#' value=''/>"), inBean("^<set name='#'><null/></set>"),
            inBean("^<lookup name='#' bean='b'/>"), inArg("^<bean class='K0' init='#'/>")}) {
            values(marked, right, wrong);
        }
    }

    /** "class: K and a digit 0 .. 7", "type: int, truth, char, text, row, or class's K and digit". */
    private static void classes() {
        String[] right = {"K0", "K1", "K6", "K7", "&#75;0", "K&#55;"};
        String[] wrong = {"", "K", "0", "K8", "K9", "K/", "J0", "L0", "k0", "K00", "K07", "K-1", " K0", "K0 ", "K 0", "0K", "KK"};
        values(inBeans("^<bean id='q' class='#'/>"), right, wrong);
        values(inArg("^<bean class='#'/>"), right, wrong);
        values(inBean("^<arg value='' type='#'/>"), right, wrong);
        values(inBean("^<arg value='' type='#'/>"), new String[] {"int", "truth", "char", "text", "row", "ro&#119;"},
                new String[] {"in", "ints", "INT", "trut", "truths", "cha", "chars", "tex", "texts", "ro", "rows", "int ",
                    " row", "class", "null", "list", "value", "one", "yes"});
        values(inBeans("^<bean id='q' class='#'/>"), new String[0], new String[] {"int", "text", "row"});
    }

    /** "at: a digit 0 .. 2". */
    private static void places() {
        String[] wrong = {"", "/", "3", "9", "00", "02", "10", "-0", "-1", "+1", " 1", "1 ", "a", "K0"};
        values(inBean("^<arg value='' at='#'/>"), new String[] {"0", "1", "2", "&#50;"}, wrong);
        values(inBean("^<arg at='#'><null/></arg>"), new String[] {"0", "1", "2"}, wrong);
    }

    /** "abstract, lazy: yes or no; scope: one or many". */
    private static void words() {
        String[] neither = {"", "ye", "yess", "Yes", "YES", "n", "noo", "yes ", " no", "true", "false", "1", "one", "many"};
        values(inBeans("^<bean id='q' class='K0' abstract='#'/>"), new String[] {"yes", "no", "&#121;es"}, neither);
        values(inBeans("^<bean id='q' class='K0' lazy='#'/>"), new String[] {"yes", "no"}, neither);
        String[] none = {"", "on", "ones", "man", "manyy", "One", "MANY", "one ", " many", "yes", "no", "two", "1"};
        values(inBeans("^<bean id='q' class='K0' scope='#'/>"), new String[] {"one", "many"}, none);
        values(inArg("^<bean class='K0' scope='#'/>"), new String[] {"one", "many"}, none);
    }

    /** "value: anything". */
    private static void anything() {
        String[] right = {"", " ", "\n", "a", "K0", "-1", "&lt;&gt;&amp;&quot;&apos;", "/>", "abcdefghijklmnopqrstuvwx",
            "&#32;&#126;", "<!--".substring(1), "=" };
        values(inBean("^<arg value='#'/>"), right, new String[0]);
        values(inBean("^<set name='a' value='#'/>"), right, new String[0]);
    }
}
