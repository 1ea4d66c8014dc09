/** Promise 6. */
final class TypeTest {
    private TypeTest() {
    }

    public static void main(String[] args) {
        order();
        characters();
        length();
        Check.end();
    }

    private static void order() {
        WiredBeans beans = new WiredBeans();
        Check.is("zeros add nothing", beans.type(0, 0, 0, 0, 0), 0);
        Check.is("zeros among others are left out", beans.type('<' << 24 | 'b' << 8, 'e', 'a' << 16, 'n', 's'), 6);
        Check.is("more", beans.type('/' << 24 | '>', 0, 0, 0, 0), 8);
        Check.is("read", Check.read(beans, ""), "0");
        Check.is("the text is empty then", beans.type(0, 0, 0, 0, ' '), 1);
        Check.is("a fault", Check.read(beans, ""), "throws 1 at 1");
        Check.is("it is also empty behind a fault", beans.type(0, 0, 0, 0, 0), 0);
    }

    private static void characters() {
        WiredBeans beans = new WiredBeans();
        for (int code = 1; code < 256; code++) {
            boolean isOne = code == 10 || code >= 32 && code <= 126;
            WiredBeans fresh = new WiredBeans();
            Check.is("character " + code, fresh.type('a', 0, 0, 0, code), isOne ? 2 : Check.NONE);
            Check.is("behind character " + code, fresh.type(0, 0, 0, 0, 0), isOne ? 2 : 0);
            Check.is("highest byte " + code, fresh.type(code << 24, 0, 0, 0, 0), isOne ? 3 : Check.NONE);
        }
        Check.type(beans, "<beans");
        Check.is("refused", beans.type('x' << 24 | 9, 0, 0, 0, 0), Check.NONE);
        Check.is("none of it came", Check.read(beans, "/>"), "0");
    }

    private static void length() {
        WiredBeans beans = new WiredBeans();
        int four = Check.four("    ", 0);
        for (int i = 1; i < 60; i++) {
            beans.type(four, four, four, four, four);
        }
        Check.is("1199", beans.type(four, four, four, four, four & 0xffffff), 1199);
        Check.is("1201", beans.type(0, 0, 0, 0, ' ' << 8 | ' '), Check.NONE);
        Check.is("none came", beans.type(0, 0, 0, 0, 0), 1199);
        Check.is("1200", beans.type(0, 0, 0, 0, ' '), 1200);
        Check.is("1201 again", beans.type(' ', 0, 0, 0, 0), Check.NONE);
        Check.is("nothing more is no more", beans.type(0, 0, 0, 0, 0), 1200);
        Check.is("a full text is read", Check.read(beans, ""), "throws 1 at 1200");
    }
}
