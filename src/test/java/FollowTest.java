/** Promise 7 with FAULT 1: for each beginning of a document, each character, whether it may follow or not. */
final class FollowTest {
    private static final String LETTERS = "abcdefghijklmnopqrstuvwxyz";
    private static final String DIGITS = "0123456789";
    private static final String WHITE = " \n";
    private static final String ALL = all();
    private static final String FULL = "ABCDEFGHIJKLMNOPQRSTUVWX";

    private FollowTest() {
    }

    public static void main(String[] args) {
        around();
        tags();
        attributes();
        content();
        comments();
        entities("<a>");
        entities("<a b='");
        lastEnds();
        fullValue();
        fullText();
        tooDeepOrTooMany();
        Check.end();
    }

    /** "characters 10 and 32 .. 126". */
    private static String all() {
        StringBuilder all = new StringBuilder("\n");
        for (char c = 32; c <= 126; c++) {
            all.append(c);
        }
        return all.toString();
    }

    private static String without(String left) {
        StringBuilder rest = new StringBuilder();
        for (int i = 0; i < ALL.length(); i++) {
            if (left.indexOf(ALL.charAt(i)) < 0) {
                rest.append(ALL.charAt(i));
            }
        }
        return rest.toString();
    }

    /** In a beginning ' stands for "; what follows it is typed as it is. */
    private static String read(String beginning, char next) {
        WiredBeans beans = new WiredBeans();
        Check.type(beans, beginning);
        Check.typeExactly(beans, "" + next);
        return Check.read(beans);
    }

    /** With one of these the text only ends too early; with another one that one is told. */
    private static void follow(String beginning, String these) {
        follow(beginning, these, beginning.length());
    }

    private static void follow(String beginning, String these, int toldElse) {
        for (int i = 0; i < ALL.length(); i++) {
            char next = ALL.charAt(i);
            int due = these.indexOf(next) >= 0 ? beginning.length() + 1 : toldElse;
            Check.is(beginning + " and then " + next, read(beginning, next), "throws 1 at " + due);
        }
    }

    /** With > the document is whole: then its element, which is not beans, is told as fault 2. */
    private static void end(String beginning, String others) {
        for (int i = 0; i < ALL.length(); i++) {
            char next = ALL.charAt(i);
            String due = "throws 1 at " + (beginning.length() + (others.indexOf(next) >= 0 ? 1 : 0));
            Check.is(beginning + " and then " + next, read(beginning, next), next == '>' ? "throws 2 at 0" : due);
        }
    }

    private static void around() {
        follow("", WHITE + "<");
        follow(" \n", WHITE + "<");
        follow("<", LETTERS + "!");
        follow("<!---->", WHITE + "<");
        follow("<!----><", LETTERS + "!");
        for (String whole : new String[] {"<beans/>", "<beans></beans>", "<beans/> \n", "<beans/><!---->"}) {
            for (int i = 0; i < ALL.length(); i++) {
                char next = ALL.charAt(i);
                String wrong = "throws 1 at " + (whole.length() + (next == '<' ? 1 : 0));
                Check.is(whole + " and then " + next, read(whole, next), WHITE.indexOf(next) >= 0 ? "0" : wrong);
            }
            follow(whole + "<", "!");
            follow(whole + "<!", "-");
        }
    }

    private static void tags() {
        follow("<a", LETTERS + WHITE + "/>");
        follow("<abcdefg", LETTERS + WHITE + "/>");
        follow("<abcdefgh", WHITE + "/>");
        follow("<a ", LETTERS + WHITE + "/>");
        follow("<a><b/", ">");
        end("<a/", "");
        end("<a /", "");
        follow("<a><b", LETTERS + WHITE + "/>");
        follow("<a></", "a");
        follow("<abc></a", "b");
        follow("<abc></ab", "c");
        end("<abc></abc", WHITE);
        end("<abc></abc ", WHITE);
        follow("<abcdefgh></abcdefg", "h");
        end("<abcdefgh></abcdefgh", WHITE);
        follow("<a><bc></", "b");
        follow("<a><bc></b", "c");
        follow("<a><bc></bc", WHITE + ">");
        follow("<a><b/></", "a");
        follow("<a><b></b></", "a");
    }

    private static void attributes() {
        follow("<a b", LETTERS + "=");
        follow("<a abcdefg", LETTERS + "=");
        follow("<a abcdefgh", "=");
        follow("<a b=", "\"");
        follow("<a b='", without("<"));
        follow("<a b='1", without("<"));
        follow("<a b='1'", WHITE + "/>");
        follow("<a b=''", WHITE + "/>");
        follow("<a b='1' ", LETTERS + WHITE + "/>");
        follow("<a b='1' b", LETTERS);
        follow("<a b='1' c", LETTERS + "=");
        follow("<a b='1' c='2' b", LETTERS);
        follow("<a abcdefgh='1' abcdefgh", "");
        follow("<a b='1'><b b", LETTERS + "=");
        StringBuilder eleven = new StringBuilder("<x");
        for (char name = 'a'; name < 'l'; name++) {
            eleven.append(' ').append(name).append("=''");
        }
        follow(eleven + " ", LETTERS + WHITE + "/>");
        follow(eleven + " l=''", WHITE + "/>");
        follow(eleven + " l='' ", WHITE + "/>");
        follow(eleven + " l=''\n\n", WHITE + "/>");
    }

    private static void content() {
        follow("<a>", ALL);
        follow("<a>x", ALL);
        follow("<a> ", ALL);
        follow("<a>]]>", ALL);
        follow("<a><b/>", ALL);
        follow("<a><!---->", ALL);
        follow("<a><", LETTERS + "!/");
        follow("<a>x<", LETTERS + "!/");
        follow("<a><b/><", LETTERS + "!/");
    }

    private static void comments() {
        for (String before : new String[] {"", "<a>", "<a/>"}) {
            follow(before + "<!", "-");
            follow(before + "<!-", "-");
            follow(before + "<!--", ALL);
            follow(before + "<!---", ALL);
            follow(before + "<!--->", ALL);
            follow(before + "<!--a", ALL);
            follow(before + "<!--a-", ALL);
            follow(before + "<!--a-b-", ALL);
            follow(before + "<!--a->", ALL);
        }
        follow("<a><!----", ">", "<a><!---".length());
        follow("<a><!--a--", ">", "<a><!--a-".length());
        follow("<!----", ">", "<!---".length());
        follow("<!--a- - --", ">", "<!--a- - -".length());
    }

    /** "& only in &lt; &gt; &amp; &quot; &apos; and &#, one to three digits, ; (a number 32 .. 126)". */
    private static void entities(String before) {
        follow(before + "&", "lgaq#");
        for (String name : new String[] {"lt;", "gt;", "quot;"}) {
            for (int i = 1; i < name.length(); i++) {
                follow(before + "&" + name.substring(0, i), name.substring(i, i + 1));
            }
        }
        follow(before + "&a", "mp");
        follow(before + "&am", "p");
        follow(before + "&amp", ";");
        follow(before + "&ap", "o");
        follow(before + "&apo", "s");
        follow(before + "&apos", ";");
        follow(before + "&#", DIGITS);
        follow(before + "&#0", DIGITS);
        follow(before + "&#9", DIGITS);
        for (int number = 10; number <= 99; number++) {
            follow(before + "&#" + number, number >= 32 ? DIGITS + ";" : DIGITS);
        }
    }

    /** Behind three digits only ; and this only if the number is as told. */
    private static void lastEnds() {
        for (int number = 0; number <= 999; number++) {
            String three = "" + (char) ('0' + number / 100) + (char) ('0' + number / 10 % 10) + (char) ('0' + number % 10);
            String beginning = "<a>&#" + three;
            int due = beginning.length() + (number >= 32 && number <= 126 ? 1 : 0);
            Check.is(beginning, read(beginning, ';'), "throws 1 at " + due);
        }
        for (String three : new String[] {"000", "031", "127", "999"}) {
            follow("<a>&#" + three, "");
        }
        for (String three : new String[] {"032", "033", "099", "100", "126"}) {
            follow("<a>&#" + three, ";");
            follow("<a b='&#" + three, ";");
        }
    }

    /** "A value has at most 24 characters"; of an entity too much its ; is told. */
    private static void fullValue() {
        follow("<a b='" + FULL.substring(1), without("<"));
        follow("<a b='" + FULL, "\"&");
        follow("<a b='" + " ".repeat(23), without("<"));
        follow("<a b='" + " ".repeat(24), "\"&");
        follow("<a b='" + "&lt;".repeat(23), without("<"));
        follow("<a b='" + "&lt;".repeat(24), "\"&");
        follow("<a b='" + FULL + "' c='" + FULL.substring(1), without("<"));
        follow("<a b='" + FULL + "' c='" + FULL, "\"&");
        follow("<a b='" + FULL.substring(1) + "&lt", ";");
        follow("<a b='" + FULL + "&lt", "");
        follow("<a b='" + FULL + "&#32", DIGITS);
        follow("<a b='" + FULL + "&#126", "");
    }

    /** "an element's text ... at most 24 but for white (also as &#32;) at both its ends, which does not count". */
    private static void fullText() {
        String full = FULL + " \n&#32;";
        follow("<a>" + FULL.substring(1), ALL);
        for (String before : new String[] {"<a>", "<a> \n ", "<a>&#32;&#032;", "<a>" + " ".repeat(30), "<a><b>" + FULL + "</b>"}) {
            follow(before + FULL.substring(1), ALL);
            follow(before + FULL, WHITE + "<&");
            follow(before + full, WHITE + "<&");
            follow(before + FULL + "&#32", DIGITS + ";");
            follow(before + FULL + "&#33", DIGITS);
            follow(before + FULL + "&amp", "");
        }
        follow("<a>x" + " ".repeat(22), ALL);
        follow("<a>x" + " ".repeat(23), WHITE + "<&");
        follow("<a>x" + "&#32;".repeat(22), ALL);
        follow("<a>x" + "&#32;".repeat(23), WHITE + "<&");
        follow("<a>" + FULL.substring(12) + "<b/>" + FULL.substring(13), ALL);
        follow("<a>" + FULL.substring(12) + "<b/>" + FULL.substring(12), WHITE + "<&");
        follow("<a>" + FULL.substring(12) + "<!---->" + FULL.substring(12), WHITE + "<&");
        follow("<a>" + FULL + "<b>", ALL);
        follow("<a>" + FULL + "<b/>", WHITE + "<&");
    }

    /** "Elements are at most 6 in one another; there are at most 80": told is the < of one too deep, or too many. */
    private static void tooDeepOrTooMany() {
        follow("<a>".repeat(5) + "<", LETTERS + "!/");
        follow("<a>".repeat(5) + "<a", LETTERS + WHITE + "/>");
        for (String full : new String[] {"<a>".repeat(6), "<a>" + "<b/>".repeat(79), "<a>".repeat(6) + "<!---->"}) {
            for (int i = 0; i < ALL.length(); i++) {
                char next = ALL.charAt(i);
                int due = full.length() + 1 + ("!/".indexOf(next) >= 0 ? 1 : 0) - (LETTERS.indexOf(next) >= 0 ? 1 : 0);
                Check.is(full + "< and then " + next, read(full + "<", next), "throws 1 at " + due);
            }
        }
        follow("<a>" + "<b/>".repeat(78) + "<", LETTERS + "!/");
        follow("<a>".repeat(6) + "</a><", LETTERS + "!/");
        follow("<a>".repeat(5) + "<a/><", LETTERS + "!/");
    }
}
