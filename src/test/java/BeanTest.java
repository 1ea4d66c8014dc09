/** Promise 16. */
final class BeanTest {
    private BeanTest() {
    }

    public static void main(String[] args) {
        asMerged();
        eachAlone();
        made();
        madeWithin();
        wrongNumbers();
        letters();
        Check.end();
    }

    private static String all(WiredBeans beans, int k) {
        StringBuilder all = new StringBuilder();
        for (int what = 0; what < 12; what++) {
            all.append(what == 0 ? "" : " ").append(beans.bean(k, what));
        }
        return all.toString();
    }

    private static void asMerged() {
        WiredBeans beans = new WiredBeans();
        String text = "<bean id='a' abstract='yes' class='K4' lazy='yes' scope='many' method='m' init='i'"
                + " destroy='d'><arg value='1'/><arg value='2'/><set name='a' value='1'/><set name='b' value='1'/>"
                + "<lookup name='a' bean='b'/></bean><bean id='b' parent='a'><arg><list><bean factory='f' method='z'/>"
                + "</list></arg><set name='b' value='2'/><set name='c' value='2'/><lookup name='a' bean='c'/>"
                + "<lookup name='c' bean='c'/></bean><bean id='c' parent='b' class='K0' init='a'/>";
        Check.with(beans, text);
        int before = "<beans>".length();
        Check.is("a parent", all(beans, 0), "4 2 2 1 12 8 3 1 1 1 0 " + before);
        Check.is("a child", all(beans, 1), "4 1 3 2 12 8 3 0 0 0 0 " + (before + text.indexOf("<bean id='b'")));
        Check.is("one within", all(beans, 2), "-1 0 0 0 25 -1 -1 0 0 0 0 " + (before + text.indexOf("<bean factory")));
        Check.is("a child's child", all(beans, 3), "0 1 3 2 12 0 3 0 0 0 0 " + (before + text.indexOf("<bean id='c'")));
    }

    /** Each attribute and each element alone: only its own number tells it. */
    private static void eachAlone() {
        String[] alone = {"abstract='yes'/>", "scope='many'/>", "lazy='yes'/>", "method='b'/>", "init='c'/>", "destroy='d'/>",
            "><arg value=''/></bean>", "><set name='a' value=''/></bean>", "><lookup name='a' bean='a'/></bean>",
            "abstract='no' scope='one' lazy='no' depends='a'/>"};
        String[] due = {"5 0 0 0 -1 -1 -1 1 0 0 0 7", "5 0 0 0 -1 -1 -1 0 1 0 0 7", "5 0 0 0 -1 -1 -1 0 0 1 0 7",
            "5 0 0 0 1 -1 -1 0 0 0 0 7", "5 0 0 0 -1 2 -1 0 0 0 0 7", "5 0 0 0 -1 -1 3 0 0 0 0 7",
            "5 1 0 0 -1 -1 -1 0 0 0 0 7", "5 0 1 0 -1 -1 -1 0 0 0 0 7", "5 0 0 1 -1 -1 -1 0 0 0 0 7",
            "5 0 0 0 -1 -1 -1 0 0 0 0 7"};
        for (int i = 0; i < alone.length; i++) {
            WiredBeans beans = new WiredBeans();
            Check.with(beans, "<bean id='a' class='K5' " + alone[i]);
            Check.is(alone[i], all(beans, 0), due[i]);
        }
    }

    private static void made() {
        WiredBeans beans = Check.family();
        beans.constructor(0, 1, 8, 0, 0);
        Check.with(beans, "<bean id='a' class='K0'/><bean id='b' class='K1' lazy='yes'/>"
                + "<bean id='c' class='K2'><set name='a' ref='b'/></bean>");
        Check.is("before", beans.bean(0, 10), 0);
        Check.get(beans, "a");
        Check.is("made", beans.bean(0, 10), 1);
        Check.get(beans, "c");
        Check.is("it failed, but not what it needed", beans.bean(1, 10) + " " + beans.bean(2, 10), "1 0");
        beans.close();
        Check.is("closed", beans.bean(0, 10) + " " + beans.bean(1, 10), "0 0");
    }

    /** "Then it is made": so of scope many, too, and within another one, until it is closed or refreshed. */
    private static void madeWithin() {
        WiredBeans beans = Check.family();
        beans.setter(0, 0, 8);
        Check.with(beans, "<bean id='a' class='K0' scope='many'/><bean id='b' class='K1' lazy='yes'><set name='a'>"
                + "<bean class='K2'/></set></bean><bean id='c' class='K3' abstract='yes'/>");
        Check.is("none yet", beans.bean(0, 10) + " " + beans.bean(1, 10) + " " + beans.bean(2, 10), "0 0 0");
        Check.get(beans, "a");
        Check.is("of scope many", beans.bean(0, 10) + " " + beans.bean(1, 10) + " " + beans.bean(2, 10), "1 0 0");
        Check.get(beans, "b");
        Check.is("within another one", beans.bean(0, 10) + " " + beans.bean(1, 10) + " " + beans.bean(2, 10), "1 1 1");
        Check.get(beans, "c");
        Check.is("an abstract one never", beans.bean(3, 10), 0);
        Check.is("refresh", Check.refresh(beans), "3");
        Check.is("none any more", beans.bean(0, 10) + " " + beans.bean(1, 10) + " " + beans.bean(2, 10), "0 0 0");
        Check.get(beans, "b");
        beans.close();
        Check.is("none when closed", beans.bean(0, 10) + " " + beans.bean(1, 10) + " " + beans.bean(2, 10), "0 0 0");
    }

    /** "method (4), init (5), destroy (6) as 0 .. 25, NONE without", class K0 .. K7, all from the first to the last. */
    private static void letters() {
        for (char letter = 'a'; letter <= 'z'; letter++) {
            WiredBeans beans = new WiredBeans();
            Check.with(beans, "<bean id='a' class='K0' method='#' init='#' destroy='#'/>".replace('#', letter));
            for (int what = 4; what <= 6; what++) {
                Check.is(letter + " as " + what, beans.bean(0, what), letter - 'a');
            }
        }
        for (char digit = '0'; digit <= '7'; digit++) {
            WiredBeans beans = new WiredBeans();
            Check.with(beans, "<bean id='a' class='K#'/>".replace('#', digit));
            Check.is("class " + digit, all(beans, 0), (digit - '0') + " 0 0 0 -1 -1 -1 0 0 0 0 7");
        }
        WiredBeans beans = new WiredBeans();
        Check.read(beans, " \n<!---->\n<beans>\n<bean id='a' abstract='yes'/></beans>");
        Check.is("the place of its <", all(beans, 0), "-1 0 0 0 -1 -1 -1 1 0 0 0 18");
    }

    private static void wrongNumbers() {
        WiredBeans beans = new WiredBeans();
        Check.is("no document", beans.bean(0, 1), Check.NONE);
        Check.with(beans, "<bean id='a' class='K0'/>");
        for (int what : new int[] {-1, 12, Integer.MIN_VALUE, Integer.MAX_VALUE}) {
            Check.is("what " + what, beans.bean(0, what), Check.NONE);
        }
        for (int k : new int[] {-1, 1, Integer.MIN_VALUE, Integer.MAX_VALUE}) {
            Check.is("bean " + k, beans.bean(k, 1), Check.NONE);
        }
    }
}
