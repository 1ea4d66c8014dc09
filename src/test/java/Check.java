import java.util.Objects;

/** What all tests use: a container with a short way to type and read, and a count of what went wrong. */
final class Check {
    static final int NONE = WiredBeans.NONE;

    private static int wrong = 0;

    private Check() {
    }

    static void is(String what, Object got, Object due) {
        if (!Objects.equals(got, due)) {
            wrong++;
            System.out.println(what + ": answered " + got + ", due is " + due);
        }
    }

    /** Ends the test: exit code 1 if anything was wrong. */
    static void end() {
        System.out.println(wrong == 0 ? "all answers are as due" : wrong + " wrong answers");
        System.exit(wrong == 0 ? 0 : 1);
    }

    /** TYPES: 0 int, 1 truth, 2 character, 3 text, 4 row, 8 + c class c. */
    static boolean isType(int type) {
        return type >= 0 && type <= 4 || type >= 8 && type <= 15;
    }

    /** Types a whole text with " for each ' so that tests can be read. */
    static void type(WiredBeans beans, String readable) {
        typeExactly(beans, readable.replace('\'', '"'));
    }

    /** Types a whole text, 20 characters a call. */
    static void typeExactly(WiredBeans beans, String text) {
        for (int start = 0; start < text.length(); start += 20) {
            beans.type(four(text, start), four(text, start + 4), four(text, start + 8),
                    four(text, start + 12), four(text, start + 16));
        }
    }

    /** Four characters of a text from a place on, the highest byte first, 0 behind the end. */
    static int four(String text, int start) {
        int sum = 0;
        for (int i = start; i < start + 4; i++) {
            sum = sum << 8 | (i < text.length() ? text.charAt(i) : 0);
        }
        return sum;
    }

    static long name(String letters) {
        long sum = 0;
        for (int i = 0; i < letters.length(); i++) {
            sum = sum << 8 | letters.charAt(i);
        }
        return sum;
    }

    /** What read() answers, or "throws" and the fault with its place. */
    static String read(WiredBeans beans, String text) {
        type(beans, text);
        return read(beans);
    }

    /** The same of what has been typed already. */
    static String read(WiredBeans beans) {
        try {
            return "" + beans.read();
        } catch (IllegalArgumentException e) {
            return "throws " + beans.fault(0) + " at " + beans.fault(1);
        }
    }

    /** What get() answers, or what it throws; of a failure its number and bean. */
    static String get(WiredBeans beans, String name) {
        return get(beans, name(name));
    }

    static String get(WiredBeans beans, long name) {
        try {
            return "" + beans.get(name);
        } catch (IllegalStateException e) {
            return "no document";
        } catch (UnsupportedOperationException e) {
            return "fails " + beans.fault(2) + " at " + beans.fault(3);
        }
    }

    static String refresh(WiredBeans beans) {
        try {
            return "" + beans.refresh();
        } catch (IllegalStateException e) {
            return "no document";
        } catch (UnsupportedOperationException e) {
            return "fails " + beans.fault(2) + " at " + beans.fault(3);
        }
    }

    static String call(WiredBeans beans, int object, char letter) {
        return call(beans, object, letter - 'a');
    }

    static String call(WiredBeans beans, int object, int name) {
        try {
            return "" + beans.call(object, name);
        } catch (IllegalStateException e) {
            return "no document";
        } catch (IndexOutOfBoundsException e) {
            return "nothing there";
        } catch (UnsupportedOperationException e) {
            return "fails " + beans.fault(2) + " at " + beans.fault(3);
        }
    }

    /** All events as "what object second third", with / between them. */
    static String events(WiredBeans beans) {
        StringBuilder all = new StringBuilder();
        for (int k = 0; k < beans.events(); k++) {
            all.append(k == 0 ? "" : "/");
            for (int what = 0; what < 4; what++) {
                all.append(what == 0 ? "" : " ").append(beans.event(k, what));
            }
        }
        return all.toString();
    }

    /** Reads a document of these elements within beans, which must have no fault. */
    static void with(WiredBeans beans, String inner) {
        String text = "<beans>" + inner + "</beans>";
        String answer = read(beans, text);
        is("reading " + text, answer.startsWith("throws") ? answer : "read", "read");
    }

    /** A container whose eight classes are each the parent of the next one, with a constructor without types. */
    static WiredBeans eightInOneLine() {
        WiredBeans beans = new WiredBeans();
        for (int c = 0; c < 8; c++) {
            beans.declare(c, c - 1);
            beans.constructor(c, 0, 0, 0, 0);
        }
        return beans;
    }

    /** A container with class 0, its children 1 and 2, a child 3 of 2, and what each of them has in the tests. */
    static WiredBeans family() {
        WiredBeans beans = new WiredBeans();
        beans.declare(0, NONE);
        beans.declare(1, 0);
        beans.declare(2, 0);
        beans.declare(3, 2);
        for (int c = 0; c < 4; c++) {
            beans.constructor(c, 0, 0, 0, 0);
        }
        return beans;
    }
}
