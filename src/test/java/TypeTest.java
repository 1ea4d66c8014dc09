/** Promise 6. */
final class TypeTest {
    private TypeTest() {
    }

    public static void main(String[] args) {
        order();
        characters();
        length();
        eachByte();
        lastCall();
        Check.end();
    }

    private static void order() {
        WiredBeans beans = new WiredBeans();
        Check.is("zeros add nothing", beans.type(0, 0, 0, 0, 0), 0);
        Check.is("zeros among others are left out", beans.type('<' << 24 | 'b' << 8, 'e', 'a' << 16, 'n', 's'), 6);
        Check.is("more", beans.type('/' << 24 | '>', 0, 0, 0, 0), 8);
        Check.is("read", Check.read(beans, ""), "0");
        Check.is("the text is empty then", beans.type(0, 0, 0, 0, ' '), 1);
        Check.is("a fault", Check.read(beans, ""), "throws 1 at 1");
        Check.is("it is also empty behind a fault", beans.type(0, 0, 0, 0, 0), 0);
    }

    private static void characters() {
        WiredBeans beans = new WiredBeans();
        for (int code = 1; code < 256; code++) {
            boolean isOne = code == 10 || code >= 32 && code <= 126;
            WiredBeans fresh = new WiredBeans();
            Check.is("character " + code, fresh.type('a', 0, 0, 0, code), isOne ? 2 : Check.NONE);
            Check.is("behind character " + code, fresh.type(0, 0, 0, 0, 0), isOne ? 2 : 0);
            Check.is("highest byte " + code, fresh.type(code << 24, 0, 0, 0, 0), isOne ? 3 : Check.NONE);
        }
        Check.type(beans, "<beans");
        Check.is("refused", beans.type('x' << 24 | 9, 0, 0, 0, 0), Check.NONE);
        Check.is("none of it came", Check.read(beans, "/>"), "0");
    }

    /** "four of each, the highest byte first": twenty characters in order, and a wrong one at each of their places. */
    private static void eachByte() {
        String twenty = "<beans  a='1' /><!--";
        WiredBeans beans = new WiredBeans();
        Check.type(beans, twenty + "-->");
        Check.is("in order", Check.read(beans), "throws 2 at 0");
        for (int place = 0; place < 20; place++) {
            for (int code : new int[] {1, 9, 11, 31, 127, 128, 255}) {
                int[] fours = new int[5];
                for (int i = 0; i < 5; i++) {
                    fours[i] = Check.four(twenty, 4 * i);
                }
                int shift = 24 - place % 4 * 8;
                fours[place / 4] = fours[place / 4] & ~(255 << shift) | code << shift;
                Check.is(code + " at " + place, beans.type(fours[0], fours[1], fours[2], fours[3], fours[4]), Check.NONE);
            }
        }
        Check.is("none came", beans.type(0, 0, 0, 0, 0), 0);
        Check.is("a number of all ones", beans.type(-1, 0, 0, 0, 0), Check.NONE);
    }

    /** "NONE, and none comes, if ... it would have more than 1200": of a call all or nothing comes. */
    private static void lastCall() {
        WiredBeans beans = new WiredBeans();
        int four = Check.four("    ", 0);
        String start = "<beans>";
        Check.type(beans, start);
        for (int length = start.length() + 20; length <= 1187; length += 20) {
            Check.is("length", beans.type(four, four, four, four, four), length);
        }
        Check.is("20 more than 1187", beans.type(four, four, four, four, four), Check.NONE);
        Check.is("14 more than 1187", beans.type(four, four, four, ' ' << 8 | ' ', 0), Check.NONE);
        Check.is("a wrong one among too many", beans.type(four, four, four, four, 9), Check.NONE);
        Check.is("5 more", beans.type(four, ' ', 0, 0, 0), 1192);
        Check.is("8 more", beans.type(Check.four("</be", 0), Check.four("ans>", 0), 0, 0, 0), 1200);
        Check.is("the longest text is a document", Check.read(beans), "0");
        Check.is("the text is empty then", beans.type(0, 0, 0, 0, 0), 0);
    }

    private static void length() {
        WiredBeans beans = new WiredBeans();
        int four = Check.four("    ", 0);
        for (int i = 1; i < 60; i++) {
            beans.type(four, four, four, four, four);
        }
        Check.is("1199", beans.type(four, four, four, four, four & 0xffffff), 1199);
        Check.is("1201", beans.type(0, 0, 0, 0, ' ' << 8 | ' '), Check.NONE);
        Check.is("none came", beans.type(0, 0, 0, 0, 0), 1199);
        Check.is("1200", beans.type(0, 0, 0, 0, ' '), 1200);
        Check.is("1201 again", beans.type(' ', 0, 0, 0, 0), Check.NONE);
        Check.is("nothing more is no more", beans.type(0, 0, 0, 0, 0), 1200);
        Check.is("a full text is read", Check.read(beans, ""), "throws 1 at 1200");
    }
}
