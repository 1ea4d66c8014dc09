/** Promise 7: what read() answers and leaves, FAULT 3, and how beans are merged. */
final class ReadTest {
    private ReadTest() {
    }

    public static void main(String[] args) {
        counts();
        names();
        parents();
        parentsInARing();
        parentsAheadOfARing();
        parentOnARing();
        leastFault();
        leavesNothing();
        merged();
        mergedArgs();
        mergedNames();
        mergedFactory();
        Check.end();
    }

    private static void is(String inner, String due) {
        Check.is("reading " + inner, Check.read(new WiredBeans(), "<beans>" + inner + "</beans>"), due);
    }

    /** In the text ^ stands before the element that is told. */
    private static void wrong(String marked) {
        int place = marked.indexOf('^');
        is(marked.substring(0, place) + marked.substring(place + 1), "throws 3 at " + (place + 7));
    }

    private static void counts() {
        is("", "0");
        is("<bean id='a' class='K0'/>", "1");
        is("<bean id='a' class='K0'><arg><bean class='K0'><set name='a'><bean class='K0'/></set></bean></arg></bean>"
                + "<alias name='a' to='b'/><bean id='c' abstract='yes'/>", "4");
        is("<bean id='a' class='K0'><arg><list><bean class='K0'/><bean class='K0'/></list></arg></bean>", "3");
    }

    private static void names() {
        wrong("<bean id='a' class='K0'/>^<bean id='a' class='K0'/>");
        wrong("<bean id='a' class='K0'/>^<alias name='x' to='a'/>");
        wrong("<alias name='x' to='a'/>^<bean id='a' class='K0'/>");
        wrong("<alias name='x' to='a'/>^<alias name='y' to='a'/>");
        wrong("<bean id='abcdefgh' class='K0'/><bean id='abcdefgi' class='K0'/>^<alias name='x' to='abcdefgh'/>");
        is("<bean id='abcdefgh' class='K0'/><bean id='abcdefg' class='K0'/><alias name='x' to='abcdefgi'/>", "2");
        wrong("<alias name='x' to='a'/><alias name='x' to='b'/>^<alias name='x' to='b'/><alias name='x' to='a'/>");
        is("<bean id='a' class='K0'/><alias name='a' to='b'/><alias name='a' to='c'/><alias name='none' to='d'/>", "1");
        is("<alias name='a' to='b'/><alias name='b' to='a'/>", "0");
        is("<alias name='a' to='a'/>", "0");
        is("<bean id='ab' class='K0'/><bean id='a' class='K0'/><bean id='ba' class='K0'/>", "3");
    }

    private static void parents() {
        wrong("^<bean id='a' parent='b'/>");
        wrong("^<bean id='a' parent='b'/><alias name='a' to='b'/>");
        wrong("^<bean id='a' parent='a'/>");
        wrong("^<bean id='a' parent='b'/><bean id='b' parent='a'/>");
        wrong("<bean id='z' class='K0'/>^<bean id='a' parent='b'/><bean id='b' parent='c'/><bean id='c' parent='a'/>");
        wrong("<bean id='a' class='K0'><arg>^<bean parent='x'/></arg></bean>");
        is("<bean id='a' parent='b'/><bean id='b' class='K0'/>", "2");
        is("<bean id='a' class='K0'><arg><bean parent='a'/></arg></bean>", "2");
        is("<bean id='a' parent='b'/><bean id='c' abstract='yes'/><bean id='b' parent='c'/>", "3");
        wrong("^<bean id='a' parent='b'/><bean id='c' class='K0'/><bean id='c' class='K0'/>");
        Check.is("fault 2 comes before fault 3",
                Check.read(new WiredBeans(), "<beans><bean id='a' parent='b'/><x/></beans>"), "throws 2 at 32");
    }

    /** "a bean's parent ... comes, from parent to parent, to itself". */
    private static void parentsInARing() {
        wrong("^<bean id='a' parent='a' class='K0'/>");
        wrong("<bean id='s' parent='k'/><bean id='k' class='K0'/>^<bean id='a' abstract='yes' parent='a'/>");
        wrong("<bean id='k' class='K0'/>^<bean id='a' parent='b'/><bean id='b' parent='a'/>");
        wrong("<bean id='k' class='K0'/>^<bean id='c' parent='a'/><bean id='a' parent='b'/><bean id='b' parent='c'/>");
        String line = lineOfParents('a', 'z');
        is(line + "<bean id='z' class='K0'/>", "26");
        wrong("^" + line + "<bean id='z' parent='a'/>");
        wrong("^" + longestRing());
        wrong(line.replace("<bean id='y'", "^<bean id='y'"));
    }

    /** Two or more steps lead to a ring on which neither the bean nor its parent lies: neither of them comes to itself. */
    private static void parentsAheadOfARing() {
        wrong("<bean id='x' parent='y'/>^<bean id='a' parent='a'/><bean id='y' parent='a'/>");
        wrong("<bean id='x' parent='y'/>^<bean id='a' parent='b'/><bean id='y' parent='b'/><bean id='b' parent='a'/>");
        wrong("<bean id='x' parent='y'/>^<bean id='c' parent='a'/><bean id='b' parent='c'/><bean id='a' parent='b'/>"
                + "<bean id='y' parent='a'/>");
        wrong("<bean id='x' parent='y'/><bean id='y' parent='z'/>^<bean id='a' parent='a'/><bean id='z' parent='a'/>");
        wrong("<bean id='x' parent='y'/><bean id='w' parent='y'/>^<bean id='a' parent='a'/><bean id='y' parent='a'/>");
        wrong("<bean id='k' class='K0'><arg><bean parent='y'/></arg></bean>^<bean id='a' parent='a'/>"
                + "<bean id='y' parent='a'/>");
        wrong("<bean id='x' parent='y'/>^<bean id='q' parent='none'/><bean id='a' parent='a'/><bean id='y' parent='a'/>");
        wrong("<bean id='x' parent='y'/>^<alias name='n' to='x'/><bean id='a' parent='a'/><bean id='y' parent='a'/>");
        String line = lineOfParents('a', 'y');
        wrong(line + "^<bean id='z' parent='z'/><bean id='y' parent='z'/>");
        wrong(line + "^<bean id='z' parent='zz'/><bean id='zz' parent='z'/><bean id='y' parent='z'/>");
    }

    /** One step leads to a ring: the bean is not on it, but its parent comes to itself. */
    private static void parentOnARing() {
        wrong("^<bean id='t' parent='a'/><bean id='a' parent='a'/>");
        wrong("^<bean id='t' parent='a'/><bean id='a' parent='b'/><bean id='b' parent='c'/><bean id='c' parent='a'/>");
        wrong("<bean id='k' class='K0'><arg>^<bean parent='a'/></arg></bean><bean id='a' parent='a'/>");
        wrong("<bean id='s' parent='t'/>^<bean id='t' parent='a'/><bean id='a' parent='b'/><bean id='b' parent='a'/>");
        wrong(lineOfParents('a', 'y') + "^<bean id='y' parent='z'/><bean id='z' parent='z'/>");
    }

    /** Beans from the first letter on, each with the next one as its parent; the last letter has no bean of its own. */
    private static String lineOfParents(char first, char last) {
        StringBuilder line = new StringBuilder();
        for (char id = first; id < last; id++) {
            line.append("<bean id='").append(id).append("' parent='").append((char) (id + 1)).append("'/>");
        }
        return line.toString();
    }

    /** As many beans as a text of 1200 characters has room for. */
    private static String longestRing() {
        StringBuilder ring = new StringBuilder();
        int beans = 45;
        for (int k = 0; k < beans; k++) {
            ring.append("<bean id='").append(shortId(k)).append("' parent='").append(shortId((k + 1) % beans)).append("'/>");
        }
        return ring.toString();
    }

    private static String shortId(int k) {
        return k < 26 ? "" + (char) ('a' + k) : "a" + (char) ('a' + k - 26);
    }

    /** "Of several faults the one with the least number is told (1 of the whole document, else 2, else 3)". */
    private static void leastFault() {
        String three = "<bean id='a' parent='b'/>";
        String two = "<bean/>";
        is(three, "throws 3 at 7");
        is(three + two, "throws 2 at 32");
        is(three + two + "&", "throws 1 at 40");
        is(three + "&", "throws 1 at 33");
        is(two + "&", "throws 1 at 15");
        is(two + three, "throws 2 at 7");
    }

    private static void leavesNothing() {
        WiredBeans beans = Check.family();
        Check.with(beans, "<bean id='a' class='K0' destroy='d'/>");
        Check.is("refresh", Check.refresh(beans), "1");
        Check.is("another document", Check.read(beans, "<beans><bean id='b' class='K1'/></beans>"), "1");
        Check.is("no events", beans.events(), 0);
        Check.is("no objects", beans.object(0, 0), Check.NONE);
        Check.is("nothing is made", beans.bean(0, 10), 0);
        Check.is("nothing to close", beans.close(), 0);
        Check.is("the old document is gone", Check.get(beans, "a"), "fails 1 at -1");
        Check.is("objects begin anew", Check.get(beans, "b"), "0");
        Check.is("a fault", Check.read(beans, "<beans>"), "throws 1 at 7");
        Check.is("no events behind a fault", beans.events(), 0);
        Check.is("no objects behind a fault", beans.object(0, 0), Check.NONE);
        Check.is("no beans behind a fault", beans.bean(0, 0), Check.NONE);
        Check.is("no document behind a fault", Check.get(beans, "b"), "no document");
        Check.is("nothing to close behind a fault", beans.close(), 0);
        Check.is("a document again", Check.read(beans, "<beans><bean id='b' class='K1'/></beans>"), "1");
        Check.is("no fault any more", beans.fault(0) + " " + beans.fault(1), "0 -1");
        Check.is("made anew", Check.get(beans, "b"), "0");
    }

    private static void merged() {
        WiredBeans beans = Check.family();
        beans.constructor(1, 1, 0, 0, 0);
        for (int name = 0; name < 6; name++) {
            beans.setter(0, name, 0);
        }
        Check.with(beans, "<bean id='c' parent='b'><set name='d' value='40'/><set name='b' value='20'/></bean>"
                + "<bean id='b' parent='a' class='K1' scope='many' lazy='yes' init='j'><arg value='7'/>"
                + "<set name='e' value='5'/></bean>"
                + "<bean id='a' abstract='yes' class='K0' init='i' destroy='k' depends='x'><set name='a' value='1'/>"
                + "<set name='b' value='2'/><set name='c' value='3'/></bean>");
        Check.is("abstract, scope, lazy and depends are its own", Check.get(beans, "c"), "0");
        Check.is("args, sets in their places, init", Check.events(beans),
                "1 0 1 1/3 0 0 7/4 0 0 1/4 0 1 20/4 0 2 3/4 0 4 5/4 0 3 40/5 0 9 0");
        beans.close();
        Check.is("destroy", beans.event(beans.events() - 1, 2), 10);
    }

    private static String of(WiredBeans beans, int k, int... whats) {
        StringBuilder all = new StringBuilder();
        for (int what : whats) {
            all.append(all.length() == 0 ? "" : " ").append(beans.bean(k, what));
        }
        return all.toString();
    }

    /** "its args, if it has none, are those of the parent": one of its own puts all of them away. */
    private static void mergedArgs() {
        WiredBeans beans = Check.family();
        beans.constructor(0, 1, 0, 0, 0);
        beans.constructor(0, 2, 0, 0, 0);
        Check.with(beans, "<bean id='a' class='K0'><arg value='1'/><arg at='0' value='2'/></bean><bean id='b' parent='a'/>"
                + "<bean id='c' parent='a'><arg value='3'/></bean><bean id='d' parent='c'/>");
        Check.is("how many", of(beans, 0, 1) + of(beans, 1, 1) + of(beans, 2, 1) + of(beans, 3, 1), "2211");
        Check.is("refresh", Check.refresh(beans), "4");
        Check.is("events", Check.events(beans), "1 0 0 2/3 0 0 2/3 0 1 1/1 1 0 2/3 1 0 2/3 1 1 1/1 2 0 1/3 2 0 3"
                + "/1 3 0 1/3 3 0 3");
    }

    /** Sets and lookups of parent and child together may be more than one element could have. */
    private static void mergedNames() {
        WiredBeans beans = Check.family();
        StringBuilder above = new StringBuilder();
        StringBuilder below = new StringBuilder();
        StringBuilder due = new StringBuilder("1 0 1 0");
        for (int i = 0; i < 8; i++) {
            beans.setter(0, i, 0);
            beans.setter(1, 25 - i, 0);
            above.append("<set name='").append((char) ('a' + i)).append("' value='1'/>");
            below.append("<set name='").append((char) ('z' - i)).append("' value='2'/>");
        }
        for (int i = 0; i < 16; i++) {
            due.append("/4 0 ").append(i < 8 ? i : 33 - i).append(i < 8 ? " 1" : " 2");
        }
        Check.with(beans, "<bean id='a' abstract='yes'>" + above + "<lookup name='a' bean='b'/><lookup name='b' bean='b'/>"
                + "</bean><bean id='b' parent='a' class='K1'>" + below + "<lookup name='c' bean='b'/>"
                + "<lookup name='b' bean='c'/></bean><bean id='c' parent='b'/>");
        Check.is("the parent", of(beans, 0, 0, 1, 2, 3), "-1 0 8 2");
        Check.is("the child", of(beans, 1, 0, 1, 2, 3), "1 0 16 3");
        Check.is("the child's child", of(beans, 2, 0, 1, 2, 3), "1 0 16 3");
        Check.is("made", Check.get(beans, "b"), "0");
        Check.is("all sets", Check.events(beans), due.toString());
        Check.is("the parent's lookup", Check.call(beans, 0, 'a'), "0");
        Check.is("its own in the place of the parent's", Check.call(beans, 0, 'b'), "1");
    }

    /** "what a bean with a parent does not tell of class, factory, method, init, destroy is as of the merged parent". */
    private static void mergedFactory() {
        WiredBeans beans = Check.family();
        beans.factory(0, 0, false, 1, 0, 0, 0, 0);
        beans.factory(0, 1, false, 2, 0, 0, 0, 0);
        beans.factory(0, 1, true, 3, 0, 0, 0, 0);
        Check.with(beans, "<bean id='f' class='K0'/><bean id='p' factory='f' method='a' init='i' destroy='d'/>"
                + "<bean id='q' parent='p' class='K3'/><bean id='r' parent='p' method='b' init='j'/>"
                + "<bean id='s' parent='f' method='b' destroy='e'/><bean id='t' parent='s' class='K2'/>");
        Check.is("class besides factory", of(beans, 2, 0, 4, 5, 6), "3 0 8 3");
        Check.is("another method", of(beans, 3, 0, 4, 5, 6), "-1 1 9 3");
        Check.is("a method besides class", of(beans, 4, 0, 4, 5, 6), "0 1 -1 4");
        Check.is("another class", of(beans, 5, 0, 4, 5, 6), "2 1 -1 4");
        Check.is("refresh", Check.refresh(beans), "6");
        Check.is("events", Check.events(beans), "1 0 0 0/2 1 1 0/5 1 8 0/2 2 1 0/5 2 8 0/2 3 2 1/5 3 9 0/2 4 3 2/2 5 3 2");
    }
}
