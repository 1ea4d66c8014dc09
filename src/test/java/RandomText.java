import java.util.Random;

/** Texts that are documents more often than not, and all of whose beans in beans begin with their id. */
final class RandomText {
    private static final String[] TEXTS = {"1", "-5", "true", "false", "x", "abc", "2147483648", "", " ", "&lt;", "&#65;9"};

    private final Random random;
    private final StringBuilder text = new StringBuilder();

    RandomText(Random random) {
        this.random = random;
    }

    /** At most 1200 characters. */
    String next() {
        do {
            text.setLength(0);
            text.append(is(5) ? " <!-- beans -->\n" : "").append("<beans>");
            for (char id = 'a'; id <= 'd' || id <= 'g' && !is(3); id++) {
                if (is(6)) {
                    text.append("<alias name='").append(id()).append("' to='").append(id).append("'/>");
                } else {
                    bean("id='" + id + "' " + (is(9) ? "abstract='yes' " : "") + (is(6) ? "lazy='yes' " : ""), 1);
                }
            }
            text.append("</beans>").append(is(5) ? "\n" : "");
        } while (text.length() > 1200);
        if (is(6)) {
            int place = random.nextInt(text.length());
            text.replace(place, place + random.nextInt(2), "" + (char) (32 + random.nextInt(95)));
        }
        return text.substring(0, Math.min(text.length(), 1200)).replace('\'', '"');
    }

    private boolean is(int oneOf) {
        return random.nextInt(oneOf) == 0;
    }

    private char id() {
        return (char) ('a' + random.nextInt(is(12) ? 8 : 4));
    }

    private char letter() {
        return (char) ('a' + random.nextInt(3));
    }

    private void bean(String start, int within) {
        text.append("<bean ").append(start);
        text.append(is(8) ? "parent='" + id() + "'" : "class='K" + random.nextInt(4) + "'");
        text.append(is(6) ? " scope='many'" : "").append(is(8) ? " depends='" + id() + "'" : "");
        text.append(is(8) ? " factory='" + id() + "' method='" + letter() + "'" : is(9) ? " method='" + letter() + "'" : "");
        text.append(is(5) ? " init='i'" : "").append(is(4) ? " destroy='d'" : "").append(">");
        for (int i = 0; i < 3 && is(4); i++) {
            text.append("<arg");
            text.append(is(9) ? " at='" + random.nextInt(3) + "'" : "").append(is(9) ? " type='text'" : "");
            content("arg", is(2) ? 'a' : 'b', within);
        }
        for (char name = 'a'; name < 'd'; name++) {
            if (is(3)) {
                text.append("<set name='").append(name).append("'");
                content("set", name, within);
            }
        }
        text.append(is(3) ? "<lookup name='" + letter() + "' bean='" + id() + "'/>" : "").append("</bean>");
    }

    /** Mostly a text for a, an object for b, and a list for c, as the classes of the test have it. */
    private void content(String holder, char name, int within) {
        char kind = is(9) ? letter() : name;
        if (kind == 'a' && !is(4)) {
            text.append(" value='").append(TEXTS[random.nextInt(TEXTS.length)]).append("'/>");
        } else if (kind == 'b' && is(2)) {
            text.append(" ref='").append(id()).append("'/>");
        } else {
            text.append(">");
            if (kind == 'c') {
                text.append("<list>");
                for (int i = 0; i < 6 && !is(3); i++) {
                    item(letter(), 0);
                }
                text.append("</list>");
            } else {
                item(kind, within);
            }
            text.append("</").append(holder).append(">");
        }
    }

    private void item(char kind, int within) {
        if (is(4)) {
            text.append("<null/>");
        } else if (kind == 'a') {
            text.append("<value>").append(TEXTS[random.nextInt(TEXTS.length)]).append("</value>");
        } else if (kind == 'b' && within > 0) {
            bean("", within - 1);
        } else {
            text.append("<ref bean='").append(id()).append("'/>");
        }
    }
}
