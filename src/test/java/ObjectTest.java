/** Promise 15. */
final class ObjectTest {
    private ObjectTest() {
    }

    public static void main(String[] args) {
        classAndBean();
        upToSixty();
        Check.end();
    }

    /** "its class (0), by which bean it was made (1)". */
    private static void classAndBean() {
        WiredBeans beans = Check.family();
        beans.factory(2, 0, true, 3, 0, 0, 0, 0);
        beans.setter(0, 0, 8);
        Check.with(beans, "<bean id='a' class='K1'/><bean id='b' class='K2' method='a'>"
                + "<set name='a'><bean class='K0'/></set></bean><bean id='c' parent='a'/>");
        Check.is("none yet", beans.object(0, 0), Check.NONE);
        Check.refresh(beans);
        Check.is("of a constructor", beans.object(0, 0) + " " + beans.object(0, 1), "1 0");
        Check.is("of a factory", beans.object(1, 0) + " " + beans.object(1, 1), "3 1");
        Check.is("within another one", beans.object(2, 0) + " " + beans.object(2, 1), "0 2");
        Check.is("with a parent", beans.object(3, 0) + " " + beans.object(3, 1), "1 3");
        Check.is("object 4", beans.object(4, 0) + " " + beans.object(4, 1), "-1 -1");
        Check.is("object -1", beans.object(-1, 0) + " " + beans.object(-1, 1), "-1 -1");
        Check.is("another what", beans.object(0, 2) + " " + beans.object(0, -1), "-1 -1");
        Check.is("extremes", beans.object(Integer.MAX_VALUE, Integer.MAX_VALUE), Check.NONE);
        beans.declare(1, -1);
        Check.is("its class stays", beans.object(0, 0), 1);
        beans.close();
        Check.is("it stays when closed", beans.object(3, 1), 3);
    }

    /** "from 0 on as they come to be (at most 60 since the document was read)". */
    private static void upToSixty() {
        WiredBeans beans = Check.family();
        Check.with(beans, "<bean id='a' class='K3' scope='many'/><bean id='b' class='K2' scope='many'/>");
        for (int count = 0; count <= 60; count++) {
            Check.is("the last of " + count, beans.object(count - 1, 0), count == 0 ? Check.NONE : count % 2 == 0 ? 3 : 2);
            Check.is("none behind " + count, beans.object(count, 0) + " " + beans.object(count, 1), "-1 -1");
            Check.get(beans, count % 2 == 0 ? "b" : "a");
        }
        Check.is("the sixtieth", beans.object(59, 0) + " " + beans.object(59, 1), "3 0");
        Check.is("no sixty-first", beans.object(60, 0) + " " + beans.object(60, 1), "-1 -1");
        for (int what = -2; what <= 3; what++) {
            Check.is("what " + what, beans.object(58, what), what == 0 ? 2 : what == 1 ? 1 : Check.NONE);
        }
        beans.close();
        Check.is("they stay when closed", beans.object(59, 0), 3);
        Check.read(beans, "<beans/>");
        Check.is("none with a new document", beans.object(0, 0), Check.NONE);
    }
}
