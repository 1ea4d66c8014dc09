/** Promise 7 with FAULT 1: what is a document at all. In each text ^ stands before the place of the fault. */
final class DocumentTest {
    private DocumentTest() {
    }

    public static void main(String[] args) {
        around();
        comments();
        names();
        tags();
        attributes();
        asManyAttributesAsFit();
        entities();
        lengthOfValues();
        lengthOfText();
        depthAndCount();
        endsTooEarly();
        Check.end();
    }

    /** Is a document, whatever is wrong with it otherwise. */
    private static void fine(String text) {
        String answer = Check.read(new WiredBeans(), text);
        Check.is("reading " + text, answer.startsWith("throws 1") ? answer : "fine", "fine");
    }

    private static void wrong(String marked) {
        int place = marked.indexOf('^');
        String text = marked.substring(0, place) + marked.substring(place + 1);
        Check.is("reading " + marked, Check.read(new WiredBeans(), text), "throws 1 at " + place);
    }

    private static void around() {
        Check.is("the least", Check.read(new WiredBeans(), "<beans/>"), "0");
        Check.is("white and comments", Check.read(new WiredBeans(), " \n<!--a--> <!--b-->\n<beans/> <!--c-->\n"), "0");
        wrong("^");
        wrong(" \n ^");
        wrong(" ^x<beans/>");
        wrong("^&lt;<beans/>");
        wrong("<beans/>^x");
        wrong("<beans/> ^&#32;");
        wrong("<beans/><^beans/>");
        wrong("<beans/><^/beans>");
        wrong("<beans/><^");
        wrong("<^/beans>");
        wrong("^/beans>");
        wrong("<^ beans/>");
    }

    private static void comments() {
        fine("<!----><beans/>");
        fine("<!-- - <beans> & > --><beans/>");
        fine("<beans><!--->x--></beans>");
        fine("<beans/><!---->");
        wrong("<!^beans/>");
        wrong("<!-^x-><beans/>");
        wrong("<!--->^");
        wrong("<!--a-^- --><beans/>");
        wrong("<!--a-^--><beans/>");
        wrong("<!---^-- ><beans/>");
        wrong("<beans><!--a-^-b></beans>");
        wrong("<beans/><!--a-^-b>");
        wrong("<beans/><!--^");
        wrong("<beans/><!--a-^");
        wrong("<beans/><!--a--^");
        wrong("<beans/><!--a-^-b");
        wrong("<beans><!^[CDATA[x]]></beans>");
        wrong("<^?xml?><beans/>");
    }

    private static void names() {
        fine("<abcdefgh/>");
        fine("<a b='' abcdefgh=''/>");
        wrong("<abcdefgh^i/>");
        wrong("<a abcdefgh^i=''/>");
        wrong("<^Beans/>");
        wrong("<bea^Ns/>");
        wrong("<be^1/>");
        wrong("<a ^B=''/>");
        wrong("<a b^B=''/>");
        wrong("<^1a/>");
    }

    private static void tags() {
        fine("<a ></a >");
        fine("<a\n\n/>");
        fine("<a></a\n \n>");
        wrong("<a/^ >");
        wrong("<a><^ /a>");
        wrong("<a></^ a>");
        wrong("<beans></b^x>");
        wrong("<beans></bean^>");
        wrong("<beans></beans^s>");
        wrong("<bean></bean^s>");
        wrong("<beans></^Beans>");
        wrong("<beans></beans ^x>");
        wrong("<beans></beans^/>");
        wrong("<a><b></^a></b>");
        wrong("<abcdefgh></abcdefgh^i>");
        wrong("<a^<b/>");
        wrong("<a ^<b/>");
        wrong("<a/^/>");
        wrong("<a^&lt;/>");
        wrong("<a><^&lt;/>");
    }

    private static void attributes() {
        fine("<a b='1' c='2'\nd='3'/>");
        fine("<a b='>'\n>x</a>");
        fine("<a b='\n'/>");
        wrong("<a b^ ='1'/>");
        wrong("<a b=^ '1'/>");
        wrong("<a b=^1/>");
        wrong("<a b^/>");
        wrong("<a b^>");
        wrong("<a b='1'^c='2'/>");
        wrong("<a ^='1'/>");
        wrong("<a b='^<'/>");
        wrong("<a b='1'^'/>");
        wrong("<a b='1' c='2' b^='3'/>");
        wrong("<a b='1' b^ ='3'/>");
        fine("<a b='1' bb='2'><c b='3'/></a>");
        String twelve = " a='' b='' c='' d='' e='' f='' g='' h='' i='' j='' k='' l=''";
        fine("<x" + twelve + "/>");
        fine("<x" + twelve + " ><y" + twelve + "/></x>");
        wrong("<x" + twelve + " ^m=''/>");
        wrong("<x" + twelve + " ^a=''/>");
        wrong("<x" + twelve + " /^ >");
    }

    /** No limit is told for the attributes of all elements together: a text of 1200 has room for some 220. */
    private static void asManyAttributesAsFit() {
        String twelve = " a='' b='' c='' d='' e='' f='' g='' h='' i='' j='' k='' l=''";
        String text = "<x" + twelve + ">" + ("<y" + twelve + "/>").repeat(17);
        fine(text + "</x>");
        wrong(text + "</x ^y>");
        wrong("<x" + twelve + ">" + ("<y" + twelve + "/>").repeat(16) + "<y" + twelve + " ^m=''/></x>");
    }

    private static void entities() {
        fine("<a b='&lt;&gt;&amp;&quot;&apos;&#32;&#126;&#065;'>&lt;&gt;&amp;&quot;&apos;&#32;&#126;</a>");
        for (String[] around : new String[][] {{"<a b='", "'/>"}, {"<a>", "</a>"}}) {
            for (String entity : new String[] {"&^;", "&^ ", "&^x;", "&l^;", "&l^x;", "&lt^ ;", "&g^;", "&gt^x", "&a^;",
                "&am^;", "&a^x;", "&ap^;", "&apo^z;", "&apos^x;", "&q^;", "&quo^;", "&quot^&", "&^LT;", "&#^;",
                "&#^x41;", "&#3^x;", "&#31^;", "&#127^;", "&#0^;", "&#999^;", "&#10^;", "&#032^1;", "&#123^4"}) {
                wrong(around[0] + entity + around[1]);
            }
        }
    }

    private static void lengthOfValues() {
        String full = "abcdefghijklmnopqrstuvwx";
        fine("<a b='" + full + "'/>");
        fine("<a b='" + full.substring(1) + "&#32;'/>");
        fine("<a b='" + " ".repeat(24) + "' c='" + full + "'/>");
        wrong("<a b='" + full + "^y'/>");
        wrong("<a b='" + full + "^ '/>");
        wrong("<a b='" + full + "^\n'/>");
        wrong("<a b='" + full + "&amp^;'/>");
        wrong("<a b='" + full + "&a^x;'/>");
        wrong("<a b='" + full + "&#127^;'/>");
        wrong("<a b='" + "&amp;".repeat(24) + "&#65^;'/>");
        wrong("<a b='" + full + "^<'/>");
    }

    private static void lengthOfText() {
        String full = "abcdefghijklmnopqrstuvwx";
        String white = " \n&#32; ".repeat(9);
        fine("<a>" + full + "</a>");
        fine("<a>" + white + full + white + "</a>");
        fine("<a>" + white + "</a>");
        fine("<a>" + full.substring(0, 12) + "<b>" + full + "</b>" + full.substring(12) + "</a>");
        fine("<a>a" + " ".repeat(22) + "b</a>");
        wrong("<a>a" + " ".repeat(23) + "^b</a>");
        fine("<a> a b c d\ne f g h i j k lm </a>");
        wrong("<a> a b c d\ne f g h i j k lm^n</a>");
        wrong("<a>" + full + "^y</a>");
        wrong("<a>" + full + "&lt^;</a>");
        wrong("<a>" + full + white + "^y</a>");
        wrong("<a>" + full + white + "&#33^;</a>");
        wrong("<a>" + full.substring(0, 12) + "<b/><!--c-->" + full.substring(12) + "^y</a>");
        wrong("<a> " + full + " <b> </b> ^y</a>");
    }

    private static void depthAndCount() {
        fine("<a><a><a><a><a><a></a></a></a></a></a></a>");
        fine("<a><a><a><a><a><a/><a/></a></a></a></a></a>");
        wrong("<a><a><a><a><a><a>^<a/></a></a></a></a></a></a>");
        wrong("<a><a><a><a><a><a>^<a");
        wrong("<a><a><a><a><a><a><^");
        wrong("<a><a><a><a><a><a><^A/>");
        fine("<a><a><a><a><a><a><!--b-->x</a></a></a></a></a></a>");
        fine("<a>" + "<b/>".repeat(79) + "</a>");
        wrong("<a>" + "<b/>".repeat(79) + "^<b/></a>");
        wrong("<a>" + "<b/>".repeat(79) + "<^</a>");
    }

    private static void endsTooEarly() {
        String whole = "<a b='c&lt;' d='&#65;'>x&amp;<!--c--><b/>y</a >";
        for (int length = 0; length < whole.length(); length++) {
            wrong(whole.substring(0, length) + "^");
        }
        fine(whole);
    }
}
