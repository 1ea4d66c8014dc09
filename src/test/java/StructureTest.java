/** Promise 7 with FAULT 2: how elements must be. In each text ^ stands before the element that is told. */
final class StructureTest {
    private StructureTest() {
    }

    public static void main(String[] args) {
        places();
        aliases();
        beans();
        holders();
        lists();
        leaves();
        texts();
        counts();
        order();
        Check.end();
    }

    private static void fine(String text) {
        String answer = Check.read(new WiredBeans(), text);
        Check.is("reading " + text, answer.startsWith("throws") ? answer : "fine", "fine");
    }

    private static void wrong(String marked) {
        int place = marked.indexOf('^');
        String text = marked.substring(0, place) + marked.substring(place + 1);
        Check.is("reading " + marked, Check.read(new WiredBeans(), text), "throws 2 at " + place);
    }

    private static void in(String inner) {
        fine("<beans>" + inner + "</beans>");
    }

    private static void wrongIn(String inner) {
        wrong("<beans>" + inner + "</beans>");
    }

    private static void inBean(String inner) {
        in("<bean id='a' class='K0'>" + inner + "</bean>");
    }

    private static void wrongInBean(String inner) {
        wrongIn("<bean id='a' class='K0'>" + inner + "</bean>");
    }

    private static void places() {
        wrong("^<bean id='a' class='K0'/>");
        wrong("^<x/>");
        wrong("^<yes/>");
        wrong("^<beans a=''/>");
        wrongIn("^<beans/>");
        wrongIn("^<x/>");
        wrongIn("^<arg value='1'/>");
        wrongIn("^<set name='a' value='1'/>");
        wrongIn("^<lookup name='a' bean='b'/>");
        wrongIn("^<list/>");
        wrongIn("^<value/>");
        wrongIn("^<null/>");
        wrongIn("^<ref bean='b'/>");
        wrongInBean("^<beans/>");
        wrongInBean("^<bean class='K0'/>");
        wrongInBean("^<alias name='b' to='c'/>");
        wrongInBean("^<value/>");
        wrongInBean("^<list/>");
        wrongInBean("<arg>^<arg value='1'/></arg>");
        wrongInBean("<arg>^<lookup name='a' bean='b'/></arg>");
        wrongInBean("<arg>^<alias name='b' to='c'/></arg>");
        wrongInBean("<arg><list>^<list/></list></arg>");
        wrongInBean("<arg><list>^<arg value='1'/></list></arg>");
        wrongInBean("<arg><bean class='K0'>^<bean class='K0'/></bean></arg>");
    }

    private static void aliases() {
        in("<alias name='a' to='b'/><alias to='abcdefgh' name='nothing'/>");
        wrongIn("^<alias name='a'/>");
        wrongIn("^<alias to='a'/>");
        wrongIn("^<alias/>");
        wrongIn("^<alias name='a' to='b' id='c'/>");
        wrongIn("^<alias name='' to='b'/>");
        wrongIn("^<alias name='a' to='abcdefghi'/>");
        wrongIn("^<alias name='A' to='b'/>");
        wrongIn("^<alias name='a' to='b '/>");
        wrongIn("^<alias name='a' to='b'><alias name='c' to='d'/></alias>");
    }

    private static void beans() {
        in("<bean id='a' class='K7' parent='b' abstract='no' scope='one' lazy='yes' factory='f' method='m' init='z'"
                + " destroy='d' depends='e'/><bean id='b' abstract='yes' scope='many' lazy='no'/>");
        wrongIn("^<bean class='K0'/>");
        wrongIn("^<bean id='a'/>");
        wrongIn("^<bean id='a' abstract='no'/>");
        wrongIn("^<bean id='a' method='m'/>");
        in("<bean id='a' abstract='yes'/>");
        in("<bean id='a' factory='f' method='m'/>");
        wrongIn("^<bean id='a' class='K0' factory='f'/>");
        wrongIn("^<bean id='a' abstract='yes' factory='f'/>");
        in("<bean id='a' class='K0' method='m'/>");
        for (String attribute : new String[] {"class='K8'", "class='K'", "class='k0'", "class='K00'", "class=''",
            "class='0'", "parent='B'", "parent=''", "abstract='true'", "abstract=''", "lazy='maybe'", "lazy='Yes'",
            "scope='two'", "scope='no'", "factory='1' method='m'", "factory='' method='m'", "method='mm'", "method=''",
            "method='M'", "init='1'", "init=' '", "destroy='ab'", "depends='a b'", "depends=''", "name='a'",
            "value='1'", "ref='a'", "at='1'", "type='int'", "other='1'", "to='b'", "bean='b'"}) {
            String with = attribute.startsWith("class") ? attribute : "class='K0' " + attribute;
            wrongIn("^<bean id='a' " + with + "/>");
        }
        wrongIn("^<bean id='' class='K0'/>");
        wrongIn("^<bean id='abcdefghi' class='K0'/>");
        wrongIn("^<bean id='a1' class='K0'/>");
        in("<bean id='&#97;' class='&#75;0'/>");
        inBean("<arg><bean class='K0' scope='many' method='m' init='i' destroy='d' depends='e'/></arg>");
        inBean("<arg><bean factory='f' method='m'/></arg>");
        wrongInBean("<arg>^<bean/></arg>");
        wrongInBean("<arg>^<bean id='b' class='K0'/></arg>");
        wrongInBean("<set name='s'>^<bean abstract='yes' class='K0'/></set>");
        wrongInBean("<set name='s'>^<bean abstract='no' class='K0'/></set>");
        wrongInBean("<arg><list>^<bean lazy='no' class='K0'/></list></arg>");
    }

    private static void holders() {
        inBean("<arg value=''/><arg ref='b'/><arg at='0' type='int' value='1'/><arg at='2' type='K7'><null/></arg>");
        for (String type : new String[] {"int", "truth", "char", "text", "row", "K0", "K7"}) {
            inBean("<arg type='" + type + "' value='1'/>");
        }
        for (String type : new String[] {"", "bool", "K8", "k0", "character", "int ", "Int", "0", "K", "list"}) {
            wrongInBean("^<arg type='" + type + "' value='1'/>");
        }
        for (String at : new String[] {"", "3", "00", "-1", "a"}) {
            wrongInBean("^<arg at='" + at + "' value='1'/>");
        }
        wrongInBean("^<arg/>");
        wrongInBean("^<arg at='1'/>");
        wrongInBean("^<arg value='1' ref='b'/>");
        wrongInBean("^<arg value='1'><null/></arg>");
        wrongInBean("^<arg ref='b'><null/></arg>");
        wrongInBean("^<arg><null/><null/></arg>");
        wrongInBean("^<arg name='a' value='1'/>");
        wrongInBean("^<arg bean='a'/>");
        wrongInBean("^<arg ref=''/>");
        wrongInBean("^<arg ref='A'/>");
        wrongInBean("^<arg value='1'><x/></arg>");
        wrongInBean("<arg>^<x/></arg>");
        wrongInBean("^<arg><x/><y/></arg>");
        inBean("<set name='a' value='anything &lt;&quot;'/><set name='z' ref='b'/><set name='b'><list/></set>");
        wrongInBean("^<set value='1'/>");
        wrongInBean("^<set name='a'/>");
        wrongInBean("^<set name='ab' value='1'/>");
        wrongInBean("^<set name='' value='1'/>");
        wrongInBean("^<set name='A' value='1'/>");
        wrongInBean("^<set name='a' value='1' at='0'/>");
        wrongInBean("^<set name='a' value='1' type='int'/>");
        wrongInBean("^<set name='a' value='1' ref='b'/>");
        wrongInBean("^<set name='a'><null/><list/></set>");
        inBean("<lookup name='a' bean='b'/><lookup name='b' bean='abcdefgh'/>");
        wrongInBean("^<lookup name='a'/>");
        wrongInBean("^<lookup bean='a'/>");
        wrongInBean("^<lookup name='ab' bean='a'/>");
        wrongInBean("^<lookup name='a' bean='B'/>");
        wrongInBean("^<lookup name='a' bean='b' ref='c'/>");
        wrongInBean("^<lookup name='a' bean='b'><null/></lookup>");
    }

    private static void lists() {
        inBean("<arg><list/></arg><arg><list><value/><ref bean='b'/><null/><bean class='K0'/></list></arg>");
        inBean("<arg><list>" + "<null/>".repeat(6) + "</list></arg>");
        wrongInBean("<arg>^<list>" + "<null/>".repeat(7) + "</list></arg>");
        wrongInBean("<arg>^<list type='int'/></arg>");
    }

    private static void leaves() {
        inBean("<arg><value>text</value></arg><arg><value/></arg><arg><ref bean='b'/></arg><arg><null></null></arg>");
        wrongInBean("<arg>^<value type='int'>1</value></arg>");
        wrongInBean("<arg>^<value><null/></value></arg>");
        wrongInBean("<arg>^<ref/></arg>");
        wrongInBean("<arg>^<ref bean='1'/></arg>");
        wrongInBean("<arg>^<ref bean='a' name='b'/></arg>");
        wrongInBean("<arg>^<ref bean='a'><null/></ref></arg>");
        wrongInBean("<arg>^<null value='1'/></arg>");
        wrongInBean("<arg>^<null><null/></null></arg>");
        wrongInBean("<arg>^<null><x/></null></arg>");
    }

    private static void texts() {
        fine("<beans> \n&#32;<bean id='a' class='K0'>\n<arg> <list> <null> </null>\n</list></arg>&#032;</bean> </beans>");
        wrong("^<beans>x</beans>");
        wrong("^<beans> <alias name='a' to='b'/>&lt;</beans>");
        wrongIn("^<alias name='a' to='b'>x</alias>");
        wrongIn("^<bean id='a' class='K0'>x</bean>");
        wrongInBean("^<arg value='1'>x</arg>");
        wrongInBean("^<arg>x<null/></arg>");
        wrongInBean("^<set name='a' ref='b'>x</set>");
        wrongInBean("^<lookup name='a' bean='b'>x</lookup>");
        wrongInBean("<arg>^<list>x</list></arg>");
        wrongInBean("<arg>^<null>x</null></arg>");
        wrongInBean("<arg>^<ref bean='b'>x</ref></arg>");
    }

    private static void counts() {
        String arg = "<arg value='1'/>";
        inBean(arg.repeat(4));
        wrongInBean(arg.repeat(4) + "<lookup name='a' bean='b'/>^" + arg);
        StringBuilder sets = new StringBuilder();
        for (char name = 'a'; name < 'i'; name++) {
            sets.append("<set name='").append(name).append("' value=''/>");
        }
        inBean(sets + arg.repeat(4));
        wrongInBean(sets + "^<set name='i' value=''/>");
        wrongInBean("<set name='a' value='1'/><set name='b' value='1'/>^<set name='a' value='2'/>");
        wrongInBean("<set name='a' value='1'/><set name='b' value='1'/>^<set name='b' value='2'/>");
        String lookups = "<lookup name='a' bean='a'/><lookup name='b' bean='a'/>";
        inBean(lookups + "<set name='a' value='1'/>");
        wrongInBean(lookups + "^<lookup name='c' bean='a'/>");
        wrongInBean("<lookup name='a' bean='a'/>^<lookup name='a' bean='b'/>");
        inBean(arg.repeat(4) + "<set name='a'><bean class='K0'>" + arg.repeat(4) + "</bean></set>");
    }

    private static void order() {
        wrong("^<beans a='1'><x/></beans>");
        wrongIn("^<bean id='a'><x/></bean><y/>");
        wrongIn("<bean id='a' class='K0'><arg>^<x/></arg></bean><y/>");
        Check.is("fault 1 comes before fault 2", Check.read(new WiredBeans(), "<x><y/>"), "throws 1 at 7");
    }
}
