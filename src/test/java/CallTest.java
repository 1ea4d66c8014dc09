/** Promise 11. */
final class CallTest {
    private CallTest() {
    }

    public static void main(String[] args) {
        WiredBeans beans = Check.family();
        Check.is("without a document", Check.call(beans, 0, 'a'), "no document");
        Check.with(beans, "<bean id='a' class='K0'><lookup name='x' bean='m'/><lookup name='y' bean='o'/></bean>"
                + "<bean id='b' parent='a'><lookup name='y' bean='none'/><lookup name='z' bean='p'/></bean>"
                + "<bean id='m' class='K1' scope='many'/><bean id='o' class='K2'/><bean id='n' abstract='yes'/>"
                + "<alias name='n' to='p'/><bean id='c' class='K0'/>");
        Check.is("no object yet", Check.call(beans, 0, 'x'), "nothing there");
        Check.is("got", Check.get(beans, "a"), "0");
        Check.is("many", Check.call(beans, 0, 'x'), "1");
        Check.is("many again", Check.call(beans, 0, 'x'), "2");
        Check.is("one", Check.call(beans, 0, 'y'), "3");
        Check.is("one again", Check.call(beans, 0, 'y'), "3");
        Check.is("no such lookup", Check.call(beans, 0, 'z'), "nothing there");
        Check.is("a name below all", Check.call(beans, 0, (char) ('a' - 1)), "nothing there");
        Check.is("no such object", Check.call(beans, 4, 'x'), "nothing there");
        Check.is("object -1", Check.call(beans, -1, 'x'), "nothing there");
        Check.is("a bean without lookups", Check.call(beans, 1, 'x'), "nothing there");
        Check.is("got another one", Check.get(beans, "b"), "4");
        Check.is("of its parent", Check.call(beans, 4, 'x'), "5");
        Check.is("in place of its parent's", Check.call(beans, 4, 'y'), "fails 1 at -1");
        Check.is("its own", Check.call(beans, 4, 'z'), "fails 2 at -1");
        beans.close();
        Check.is("an object of a bean that is not made any more", Check.call(beans, 0, 'y'), "6");
        Check.read(beans, "");
        Check.is("no document any more", Check.call(beans, 0, 'y'), "no document");
        Check.end();
    }
}
