/** Promise 10: what fits best, and values in events. */
final class FitTest {
    private FitTest() {
    }

    public static void main(String[] args) {
        texts();
        numbers();
        objects();
        nulls();
        lists();
        fullLists();
        places();
        types();
        least();
        weights();
        fourteen();
        longestTexts();
        entities();
        signs();
        afterDeclaring();
        sets();
        Check.end();
    }

    /** What is made of K0 with these args, if its constructors have these types: events, or what is thrown. */
    private static String made(String args, int[]... constructors) {
        WiredBeans beans = new WiredBeans();
        beans.declare(2, 1);
        beans.declare(3, 2);
        for (int c = 1; c < 5; c++) {
            beans.constructor(c, 0, 0, 0, 0);
        }
        for (int[] types : constructors) {
            beans.constructor(0, types.length, types.length > 0 ? types[0] : 0, types.length > 1 ? types[1] : 0,
                    types.length > 2 ? types[2] : 0);
        }
        Check.with(beans, "<bean id='a' class='K0'>" + args + "</bean><bean id='k' class='K3'/>");
        String answer = Check.get(beans, "a");
        return answer.startsWith("fails") ? answer : Check.events(beans);
    }

    private static int[] of(int... types) {
        return types;
    }

    private static String value(String text, int... types) {
        int[][] each = new int[types.length][];
        for (int i = 0; i < types.length; i++) {
            each[i] = of(types[i]);
        }
        return made("<arg value='" + text + "'/>", each);
    }

    private static void texts() {
        Check.is("int before text", value("5", 3, 0), "1 0 0 1/3 0 0 5");
        Check.is("int before character", value("5", 2, 0), "1 0 0 1/3 0 0 5");
        Check.is("character before text", value("x", 3, 2), "1 0 0 1/3 0 0 120");
        Check.is("truth before text", value("true", 3, 1), "1 0 0 1/3 0 0 1");
        Check.is("false", value("false", 3, 1), "1 0 0 1/3 0 0 0");
        Check.is("no truth", value("True", 1, 3), "1 0 0 1/3 0 0 1004");
        Check.is("no truth at all", value("tru", 1), "fails 5 at 0");
        Check.is("no character", value("xy", 2), "fails 5 at 0");
        Check.is("empty is no character", value("", 2, 0, 1), "fails 5 at 0");
        Check.is("empty", value("", 3), "1 0 0 0/3 0 0 1000");
        Check.is("white in an attribute counts", value(" a ", 3), "1 0 0 0/3 0 0 1003");
        Check.is("a line's end is a character", value("\n", 2), "1 0 0 0/3 0 0 10");
        Check.is("entities are one character", value("&lt;", 2), "1 0 0 0/3 0 0 60");
        Check.is("no row, no object", value("x", 4, 8, 9), "fails 5 at 0");
        Check.is("white around text does not count", made("<arg><value>\n 1<!--c-->2 </value></arg>", of(0)),
                "1 0 0 0/3 0 0 12");
        Check.is("white within text counts", made("<arg><value>1 2</value></arg>", of(0), of(3)), "1 0 0 1/3 0 0 1003");
        Check.is("an empty value", made("<arg><value/></arg>", of(3)), "1 0 0 0/3 0 0 1000");
    }

    private static void numbers() {
        Check.is("the greatest", value("2147483647", 0, 3), "1 0 0 0/3 0 0 2147483647");
        Check.is("the least", value("-2147483648", 0, 3), "1 0 0 0/3 0 0 -2147483648");
        Check.is("minus one", value("-1", 0), "1 0 0 0/3 0 0 -1");
        Check.is("minus nought", value("-0", 0), "1 0 0 0/3 0 0 0");
        Check.is("noughts ahead", value("0000000012", 0), "1 0 0 0/3 0 0 12");
        for (String text : new String[] {"2147483648", "-2147483649", "9999999999", "00000000012", "-", "", "+1", "1-",
            "--1", " 1", "1 ", "1.0", "0x1", "12345678901", "4294967296"}) {
            Check.is("no number: " + text, value(text, 0, 3), "1 0 0 1/3 0 0 " + (1000 + text.length()));
        }
    }

    private static void objects() {
        String ref = "<arg ref='k'/>";
        Check.is("its own class", made(ref, of(9), of(10), of(11)), "1 0 3 0/1 1 0 2/3 1 0 3000");
        Check.is("the nearer one", made(ref, of(9), of(10)), "1 0 3 0/1 1 0 1/3 1 0 3000");
        Check.is("two steps up", made(ref, of(8), of(12), of(9)), "1 0 3 0/1 1 0 2/3 1 0 3000");
        Check.is("not other classes", made(ref, of(8), of(12)), "fails 5 at 0");
        Check.is("not other types", made(ref, of(0), of(3), of(4), of(1)), "fails 5 at 0");
        Check.is("not down", made("<arg><bean class='K2'/></arg>", of(11)), "fails 5 at 0");
        Check.is("two for each step", made("<arg><bean class='K2'/></arg><arg value='5'/>", of(9, 0), of(10, 3)),
                "1 0 2 0/1 1 0 0/3 1 0 3000/3 1 1 5");
        Check.is("of equals the first", made("<arg><bean class='K2'/></arg><arg value='5'/>", of(10, 3), of(9, 0)),
                "1 0 2 0/1 1 0 0/3 1 0 3000/3 1 1 1001");
    }

    private static void nulls() {
        String arg = "<arg><null/></arg>";
        Check.is("to text", made(arg, of(3)), "1 0 0 0/3 0 0 -1");
        Check.is("to a row", made(arg, of(0), of(4)), "1 0 0 1/3 0 0 -1");
        Check.is("to a class", made(arg, of(1), of(2), of(15)), "1 0 0 2/3 0 0 -1");
        Check.is("of equals the first", made(arg, of(12), of(3), of(4)), "1 0 0 0/3 0 0 -1");
        Check.is("not to others", made(arg, of(0), of(1), of(2)), "fails 5 at 0");
    }

    private static void lists() {
        Check.is("an empty one", made("<arg><list/></arg>", of(3), of(4)), "1 0 0 1/3 0 0 2000");
        Check.is("no other type", made("<arg><list/></arg>", of(3), of(8), of(0)), "fails 5 at 0");
        Check.is("each behind its row", made("<arg><list><value>7</value><null/></list></arg>"
                + "<arg><list><bean class='K1'/><ref bean='k'/></list></arg>", of(4, 4)),
                "1 0 1 0/1 1 3 0/1 2 0 0/3 2 0 2002/6 -1 0 1001/6 -1 1 -1/3 2 1 2002/6 -1 0 3000/6 -1 1 3001");
        Check.is("worked out before none fits", made("<arg><list><ref bean='none'/></list></arg>"), "fails 1 at 0");
    }

    /** "each one is worked out, in order": three full lists, each of whose parts is told in its place. */
    private static void fullLists() {
        StringBuilder args = new StringBuilder();
        StringBuilder due = new StringBuilder("1 0 0 0");
        for (int arg = 0; arg < 3; arg++) {
            args.append("<arg><list>");
            due.append("/3 0 ").append(arg).append(" 2006");
            for (int i = 0; i < 6; i++) {
                args.append("<value>").append("x".repeat(6 * arg + i)).append("</value>");
                due.append("/6 -1 ").append(i).append(" ").append(1000 + 6 * arg + i);
            }
            args.append("</list></arg>");
        }
        Check.is("three full lists", made(args.toString(), of(4, 4, 4)), due.toString());
    }

    private static void places() {
        String one = "<arg at='1' value='1'/>";
        Check.is("the others to the places left", made(one + "<arg value='a'/><arg value='b'/>", of(3, 0, 2)),
                "1 0 0 0/3 0 0 1001/3 0 1 1/3 0 2 98");
        Check.is("the same place", made(one + one, of(0, 0)), "fails 5 at 0");
        Check.is("no such place", made(one, of(0)), "fails 5 at 0");
        Check.is("not even with more types", made(one, of(0, 0)), "fails 5 at 0");
        Check.is("turned around", made("<arg at='2' value='1'/><arg at='0' value='2'/><arg value='3'/>", of(0, 0, 0)),
                "1 0 0 0/3 0 0 2/3 0 1 3/3 0 2 1");
        Check.is("four never fit", made("<arg value='1'/>".repeat(4), of(0, 0, 0)), "fails 5 at 0");
        Check.is("as many types as args", made("<arg value='1'/>", of(), of(0, 0), of(0, 0, 0)), "fails 5 at 0");
        Check.is("none", made("", of(0), of()), "1 0 0 1");
    }

    private static void types() {
        Check.is("just that type", made("<arg type='text' value='1'/>", of(0), of(2), of(3)), "1 0 0 2/3 0 0 1001");
        Check.is("char", made("<arg type='char' value='1'/>", of(0), of(2), of(3)), "1 0 0 1/3 0 0 49");
        Check.is("a type that it can't be", made("<arg type='int' value='x'/>", of(0), of(3)), "fails 5 at 0");
        Check.is("truth", made("<arg type='truth' value='true'/>", of(3), of(1)), "1 0 0 1/3 0 0 1");
        Check.is("a class above", made("<arg type='K1' ref='k'/>", of(11), of(9)), "1 0 3 0/1 1 0 1/3 1 0 3000");
        Check.is("a class between", made("<arg type='K2' ref='k'/>", of(11), of(9)), "fails 5 at 0");
        Check.is("null", made("<arg type='row'><null/></arg>", of(3), of(4)), "1 0 0 1/3 0 0 -1");
        Check.is("a row", made("<arg type='text'><list/></arg>", of(3), of(4)), "fails 5 at 0");
    }

    private static void least() {
        String two = "<arg value='1'/><arg value='2'/>";
        Check.is("the least sum", made(two, of(3, 0), of(2, 0), of(0, 2), of(3, 3)), "1 0 0 1/3 0 0 49/3 0 1 2");
        Check.is("one that can't be is none", made("<arg value='1'/><arg value='x'/>", of(0, 0), of(3, 3)),
                "1 0 0 1/3 0 0 1001/3 0 1 1001");
    }

    /** Both sums are the same: then the first one is taken, whichever it is. */
    private static void equal(String args, int[] one, int[] other) {
        for (int[][] both : new int[][][] {{one, other}, {other, one}}) {
            String answer = made(args, both);
            Check.is("first of equals with " + args + " " + answer, answer.matches("(.*/)?1 \\d 0 0/.*"), true);
        }
    }

    /** The first sum is less: then it is taken, wherever it stands. */
    private static void less(String args, int[] one, int[] other) {
        Check.is("the first with " + args, made(args, one, other).matches("(.*/)?1 \\d 0 0/.*"), true);
        Check.is("the second with " + args, made(args, other, one).matches("(.*/)?1 \\d 0 1/.*"), true);
    }

    /** Each weight against the others: int 1, truth 1, character 2, text 3, 2 for each step. */
    private static void weights() {
        String object = "<arg ref='k'/>";
        equal("<arg value='5'/>" + object, of(0, 10), of(3, 11));
        equal("<arg value='true'/>" + object, of(1, 10), of(3, 11));
        equal("<arg value='5'/><arg value='6'/>", of(2, 2), of(0, 3));
        equal("<arg value='5'/><arg value='6'/>", of(2, 3), of(3, 2));
        equal("<arg value='5'/><arg value='6'/>" + object, of(2, 2, 10), of(3, 3, 11));
        equal("<arg value='5'/><arg value='6'/>" + object, of(0, 0, 9), of(3, 3, 11));
        equal("<arg value='true'/><arg value='5'/>" + object, of(1, 0, 9), of(3, 3, 11));
        less("<arg value='5'/>" + object, of(2, 11), of(0, 10));
        less("<arg value='5'/>" + object, of(3, 11), of(2, 10));
        less("<arg value='5'/>" + object, of(0, 10), of(2, 10));
        less("<arg value='5'/>" + object, of(2, 10), of(3, 10));
        less("<arg value='true'/>" + object, of(1, 11), of(3, 11));
        less("<arg value='true'/>" + object, of(3, 11), of(1, 9));
        less("<arg value='5'/>" + object, of(3, 11), of(0, 9));
        less("<arg value='5'/><arg value='6'/>", of(0, 2), of(2, 2));
        equal("<arg><null/></arg>" + object, of(3, 11), of(4, 11));
        equal("<arg><null/></arg>" + object, of(4, 11), of(15, 11));
        less("<arg><null/></arg>" + object, of(15, 11), of(3, 10));
        less("<arg><null/></arg><arg value='5'/>", of(8, 0), of(15, 2));
        less("<arg><list/></arg><arg value='5'/>", of(4, 2), of(4, 3));
    }

    /** "2 for each step from k to its parent up to c": from the last class to the first. */
    private static void fourteen() {
        WiredBeans beans = Check.eightInOneLine();
        beans.declare(0, -1);
        beans.constructor(0, 1, 8, 0, 0);
        for (int c = 1; c < 4; c++) {
            beans.constructor(0, 1, 8 + c, 0, 0);
        }
        beans.setter(0, 0, 8);
        Check.with(beans, "<bean id='k' class='K7'><set name='a' ref='k'/></bean><bean id='a' class='K0'><arg ref='k'/></bean>"
                + "<bean id='b' class='K0'><arg type='K0' ref='k'/></bean>");
        Check.is("refresh", Check.refresh(beans), "3");
        Check.is("the nearest, or just that", Check.events(beans),
                "1 0 7 0/4 0 0 3000/1 1 0 3/3 1 0 3000/1 2 0 0/3 2 0 3000");
        equal("<arg ref='k'/><arg value='1'/><arg value='2'/>", of(9, 0, 0), of(11, 3, 3));
    }

    /** "a text: 1000 and its length": from none to 24. */
    private static void longestTexts() {
        String full = "abcdefghijklmnopqrstuvwx";
        for (int length = 0; length <= full.length(); length++) {
            String text = full.substring(0, length);
            Check.is("attribute " + text, value(text, 3), "1 0 0 0/3 0 0 " + (1000 + length));
            Check.is("element " + text, made("<arg><value> " + text + "\n</value></arg>", of(3)),
                    "1 0 0 0/3 0 0 " + (1000 + length));
            Check.is("item " + text, made("<arg><list><value>" + text + "</value></list></arg>", of(4)),
                    "1 0 0 0/3 0 0 2001/6 -1 0 " + (1000 + length));
            Check.is("one character " + text, value(text, 2), length == 1 ? "1 0 0 0/3 0 0 97" : "fails 5 at 0");
        }
        Check.is("white alone", value(" ".repeat(24), 3), "1 0 0 0/3 0 0 1024");
        Check.is("white alone in an element", made("<arg><value>&#32; </value></arg>", of(2), of(3)), "1 0 0 1/3 0 0 1000");
        for (int count = 0; count <= 6; count++) {
            Check.is(count + " items", made("<arg><list>" + "<null/>".repeat(count) + "</list></arg>", of(4))
                    .startsWith("1 0 0 0/3 0 0 " + (2000 + count)), true);
        }
    }

    /** "Each is one character then." */
    private static void entities() {
        String[] texts = {"&lt;", "&gt;", "&amp;", "&quot;", "&apos;", "&#32;", "&#126;", "&#065;", "&#65;", "\n"};
        int[] codes = {60, 62, 38, 34, 39, 32, 126, 65, 65, 10};
        for (int i = 0; i < texts.length; i++) {
            Check.is("code of " + texts[i], value(texts[i], 2), "1 0 0 0/3 0 0 " + codes[i]);
        }
        for (int i = 0; i < 5; i++) {
            Check.is("in an element " + texts[i], made("<arg><value>" + texts[i] + "</value></arg>", of(2)),
                    "1 0 0 0/3 0 0 " + codes[i]);
        }
        for (int code = 32; code <= 126; code++) {
            Check.is("number " + code, value("&#" + code + ";", 2), "1 0 0 0/3 0 0 " + code);
        }
        Check.is("a number of entities", value("&#45;&#49;&#50;", 0), "1 0 0 0/3 0 0 -12");
        Check.is("a truth of entities", value("t&#114;ue", 1), "1 0 0 0/3 0 0 1");
        Check.is("an entity is not read twice", value("&amp;lt;", 3), "1 0 0 0/3 0 0 1004");
        WiredBeans beans = new WiredBeans();
        beans.constructor(0, 1, 2, 0, 0);
        Check.typeExactly(beans, "<beans><bean id=\"a\" class=\"K0\"><arg value=\"'\"/></bean></beans>");
        Check.is("a bare '", Check.read(beans), "1");
        Check.is("made", Check.get(beans, "a"), "0");
        Check.is("its code", beans.event(1, 3), 39);
    }

    /** "perhaps -, one to ten digits, in the range of an int", on both sides of each limit. */
    private static void signs() {
        int[] numbers = {0, 1, -1, 9, 10, 99, 1000000000, 2147483646, Integer.MAX_VALUE, -2147483647, Integer.MIN_VALUE};
        for (int number : numbers) {
            Check.is("number " + number, value("" + number, 0, 3), "1 0 0 0/3 0 0 " + number);
        }
        String[] padded = {"0000000000", "-0000000000", "0000000001", "-0000000001", "-2147483648", "02147483647".substring(1)};
        for (String text : padded) {
            Check.is("ten digits " + text, value(text, 0, 3), "1 0 0 0/3 0 0 " + Integer.parseInt(text));
        }
        String[] none = {"00000000000", "-00000000000", "00000000001", "02147483647", "2147483648", "-2147483649", "4294967295",
            "4294967297", "-4294967296", "9999999999", "-9999999999", "18446744073709551617", "1/", "1:", "/1", ":1", "-/", "-:",
            "- 1", "-", "--", "1e1", "1_0", "0.", "a", "\n1", "1\n"};
        for (String text : none) {
            Check.is("no number " + text, value(text, 0, 3), "1 0 0 1/3 0 0 " + (1000 + text.length()));
            Check.is("no number at all " + text, value(text, 0), "fails 5 at 0");
        }
        for (String text : new String[] {"tru", "truee", "TRUE", "fals", "falsee", "False", " true", "true ", "yes", "1", "0", ""}) {
            Check.is("no truth " + text, value(text, 1), "fails 5 at 0");
        }
        Check.is("white around a number does not count in an element", made("<arg><value>\n-7 </value></arg>", of(0)),
                "1 0 0 0/3 0 0 -7");
    }

    /** "(what is behind may be done at any time)": what fits is asked of the classes as they are then. */
    private static void afterDeclaring() {
        WiredBeans beans = Check.family();
        beans.constructor(0, 1, 8, 0, 0);
        Check.with(beans, "<bean id='k' class='K1'/><bean id='a' class='K0' scope='many'><arg ref='k'/></bean>");
        Check.is("one step", Check.get(beans, "a"), "1");
        beans.declare(1, -1);
        Check.is("no step any more", Check.get(beans, "a"), "fails 5 at 1");
        beans.declare(1, 0);
        Check.is("one step again", Check.get(beans, "a"), "2");
    }

    private static String set(String inner, int type) {
        WiredBeans beans = Check.family();
        beans.setter(0, 2, type);
        Check.with(beans, "<bean id='a' class='K0'><set name='c' " + inner + "</bean><bean id='k' class='K3'/>");
        String answer = Check.get(beans, "a");
        return answer.startsWith("fails") ? answer : Check.events(beans);
    }

    private static void sets() {
        Check.is("int", set("value='-12'/>", 0), "1 0 0 0/4 0 2 -12");
        Check.is("truth", set("value='true'/>", 1), "1 0 0 0/4 0 2 1");
        Check.is("character", set("value='7'/>", 2), "1 0 0 0/4 0 2 55");
        Check.is("text", set("value='7'/>", 3), "1 0 0 0/4 0 2 1001");
        Check.is("row", set("><list><null/></list></set>", 4), "1 0 0 0/4 0 2 2001/6 -1 0 -1");
        Check.is("class", set("ref='k'/>", 8), "1 0 0 0/1 1 3 0/4 0 2 3001");
        Check.is("null", set("><null/></set>", 11), "1 0 0 0/4 0 2 -1");
        Check.is("not int", set("value='x'/>", 0), "fails 8 at 0");
        Check.is("not row", set("value='x'/>", 4), "fails 8 at 0");
        Check.is("not that class", set("ref='k'/>", 9), "fails 8 at 0");
        Check.is("not null", set("><null/></set>", 0), "fails 8 at 0");
        Check.is("no list", set("><list/></set>", 3), "fails 8 at 0");
    }
}
