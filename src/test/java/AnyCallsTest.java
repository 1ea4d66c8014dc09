import java.util.Random;
import java.util.function.ToIntFunction;

/**
 * Runs of 512 calls of any kind. What holds in each of them: a call throws what the document says and nothing else, the same
 * calls give the same answers, and the answers fit together as the promises tell.
 */
final class AnyCallsTest {
    private static final int RUNS = 1000;
    private static final int CALLS = 512;
    private static final int STATE = Integer.MIN_VALUE;
    private static final int INDEX = Integer.MIN_VALUE + 1;
    private static final int FAILS = Integer.MIN_VALUE + 2;
    private static final int FAULT = Integer.MIN_VALUE + 3;

    private final int run;
    private final Random random;
    private final WiredBeans one = new WiredBeans();
    private final WiredBeans other = new WiredBeans();
    private int calls = 0;
    private int documents = 0;
    private int made = 0;
    private String text = "";
    private int beans = Check.NONE;

    private AnyCallsTest(int run) {
        this.run = run;
        random = new Random(run);
    }

    public static void main(String[] args) {
        int documents = 0;
        int made = 0;
        for (int run = 0; run < RUNS; run++) {
            AnyCallsTest test = new AnyCallsTest(run);
            test.declareSome();
            while (test.calls < CALLS) {
                test.step();
            }
            documents += test.documents;
            made += test.made;
        }
        Check.is("enough documents were right: " + documents, documents > RUNS, true);
        Check.is("enough was made: " + made, made > RUNS, true);
        Check.end();
    }

    private void is(String what, Object got, Object due) {
        if (calls <= CALLS) {
            Check.is("run " + run + ", call " + calls + ", " + what + " with " + text, got, due);
        }
    }

    private void holds(String what, boolean does) {
        is(what, does, true);
    }

    /** Asks both containers; what they throw becomes one of the numbers above. */
    private int ask(String what, ToIntFunction<WiredBeans> call) {
        calls++;
        int answer = answer(one, what, call);
        is(what + " a second time", answer(other, what, call), answer);
        return answer;
    }

    private int answer(WiredBeans asked, String what, ToIntFunction<WiredBeans> call) {
        try {
            return call.applyAsInt(asked);
        } catch (IllegalStateException e) {
            holds(what + " throws " + e, "refresh get call".contains(what) && e.getClass() == IllegalStateException.class);
            return STATE;
        } catch (IndexOutOfBoundsException e) {
            holds(what + " throws " + e, what.equals("call") && e.getClass() == IndexOutOfBoundsException.class);
            return INDEX;
        } catch (UnsupportedOperationException e) {
            holds(what + " throws " + e, "refresh get call".contains(what) && e.getClass() == UnsupportedOperationException.class);
            return FAILS;
        } catch (IllegalArgumentException e) {
            holds(what + " throws " + e, what.equals("read") && e.getClass() == IllegalArgumentException.class);
            return FAULT;
        } catch (RuntimeException | StackOverflowError e) {
            is(what + " throws", e, "nothing like that");
            return FAULT;
        }
    }

    private int number() {
        int[] far = {Integer.MIN_VALUE, Integer.MAX_VALUE, 255, 256, -256, 1 << 30};
        return random.nextInt(20) == 0 ? far[random.nextInt(far.length)] : random.nextInt(18) - 2;
    }

    /** Classes with which much of what the texts tell can be made. */
    private void declareSome() {
        for (int i = 0; i < 4; i++) {
            int c = i;
            ask("declare", asked -> asked.declare(c, c - 1) ? 1 : 0);
            ask("constructor", asked -> asked.constructor(c, 0, 0, 0, 0) ? 1 : 0);
            ask("constructor", asked -> asked.constructor(c, 1, 3, 0, 0) ? 1 : 0);
            ask("constructor", asked -> asked.constructor(c, 1, 8, 0, 0) ? 1 : 0);
        }
        ask("setter", asked -> asked.setter(0, 0, 3) ? 1 : 0);
        ask("setter", asked -> asked.setter(0, 1, 8) ? 1 : 0);
        ask("setter", asked -> asked.setter(1, 2, 4) ? 1 : 0);
        ask("factory", asked -> asked.factory(0, 0, true, 2, 0, 0, 0, 0) ? 1 : 0);
        ask("factory", asked -> asked.factory(1, 1, false, 3, 0, 0, 0, 0) ? 1 : 0);
    }

    private void step() {
        switch (random.nextInt(12)) {
            case 0:
                changeAClass();
                break;
            case 1:
                read();
                break;
            case 2:
            case 3:
                refresh();
                break;
            case 4:
            case 5:
            case 6:
                get();
                break;
            case 7:
                call();
                break;
            case 8:
                close();
                break;
            case 9:
                events();
                break;
            case 10:
                anyNumbers();
                break;
            default:
                typeAnything();
        }
    }

    private void changeAClass() {
        int[] n = {number(), number(), number(), number(), number(), number(), number()};
        boolean isStatic = random.nextBoolean();
        int answer;
        switch (random.nextInt(8)) {
            case 0:
                answer = ask("declare", asked -> asked.declare(n[0], n[1]) ? 1 : 0);
                is("declare", answer, n[0] >= 0 && n[0] <= 7 && n[1] >= -1 && n[1] < n[0] ? 1 : 0);
                break;
            case 1:
            case 2:
                answer = ask("constructor", asked -> asked.constructor(n[0], n[1], n[2], n[3], n[4]) ? 1 : 0);
                holds("constructor", answer == 0 || n[0] >= 0 && n[0] <= 7 && n[1] >= 0 && n[1] <= 3);
                break;
            case 3:
            case 4:
                answer = ask("setter", asked -> asked.setter(n[0], n[1], n[2]) ? 1 : 0);
                holds("setter", answer == 0 || n[0] >= 0 && n[0] <= 7 && n[1] >= 0 && n[1] <= 25 && Check.isType(n[2]));
                is("the same again", ask("setter", asked -> asked.setter(n[0], n[1], n[2]) ? 1 : 0), 0);
                break;
            default:
                answer = ask("factory", asked -> asked.factory(n[0], n[1], isStatic, n[2], n[3], n[4], n[5], n[6]) ? 1 : 0);
                holds("factory", answer == 0 || n[0] >= 0 && n[0] <= 7 && n[2] >= 0 && n[2] <= 7 && n[3] >= 0 && n[3] <= 3);
        }
    }

    private void typeAnything() {
        int[] n = {random.nextInt(), number(), 0x20202020, 0, number()};
        int before = ask("type", asked -> asked.type(0, 0, 0, 0, 0));
        int after = ask("type", asked -> asked.type(n[0], n[1], n[2], n[3], n[4]));
        holds("a longer text", after == Check.NONE || after >= before + 4 && after <= before + 20 && after <= 1200);
        is("the text is as long then", ask("type", asked -> asked.type(0, 0, 0, 0, 0)), after == Check.NONE ? before : after);
    }

    private void read() {
        ask("read", WiredBeans::read);
        text = new RandomText(random).next();
        for (int i = 0; i < text.length(); i += 20) {
            int start = i;
            int length = ask("type", asked -> asked.type(Check.four(text, start), Check.four(text, start + 4),
                    Check.four(text, start + 8), Check.four(text, start + 12), Check.four(text, start + 16)));
            is("type", length, Math.min(text.length(), start + 20));
        }
        int answer = ask("read", WiredBeans::read);
        beans = answer == FAULT ? Check.NONE : answer;
        int fault = ask("fault", asked -> asked.fault(0));
        int place = ask("fault", asked -> asked.fault(1));
        is("events", ask("events", WiredBeans::events), 0);
        is("no objects", ask("object", asked -> asked.object(0, 0)), Check.NONE);
        is("no more beans", ask("bean", asked -> asked.bean(Math.max(0, beans), 0)), Check.NONE);
        is("the text is empty then", ask("type", asked -> asked.type(0, 0, 0, 0, 0)), 0);
        if (answer == FAULT) {
            holds("a fault", fault >= 1 && fault <= 3);
            holds("its place", place >= 0 && place <= text.length() && (fault == 1 || text.charAt(place) == '<'));
            return;
        }
        documents++;
        is("no fault", fault + " " + place, "0 -1");
        is("how many beans", answer, text.split("<bean ", -1).length - 1);
        if (beans > 0) {
            is("the last one's place", ask("bean", asked -> asked.bean(beans - 1, 11)), text.lastIndexOf("<bean "));
        }
    }

    private void failure(int answer) {
        int failure = ask("fault", asked -> asked.fault(2));
        int bean = ask("fault", asked -> asked.fault(3));
        if (answer == FAILS) {
            holds("a failure", failure >= 1 && failure <= 8 && bean >= Check.NONE && bean < beans);
        } else {
            is("no failure", failure + " " + bean, "0 -1");
        }
        is("a document is asked for", answer == STATE, beans == Check.NONE);
    }

    private void refresh() {
        int answer = ask("refresh", WiredBeans::refresh);
        failure(answer);
        if (answer >= 0) {
            made++;
            holds("that many objects", answer <= 60);
            is("not more", ask("object", asked -> asked.object(answer, 0)), Check.NONE);
            holds("not fewer", answer == 0 || ask("object", asked -> asked.object(answer - 1, 0)) != Check.NONE);
        }
        for (int i = 0; i < beans; i++) {
            int k = i;
            int place = ask("bean", asked -> asked.bean(k, 11));
            boolean isWanted = text.startsWith("<bean id=", place) && ask("bean", asked -> asked.bean(k, 7)) == 0
                    && ask("bean", asked -> asked.bean(k, 8)) == 0 && ask("bean", asked -> asked.bean(k, 9)) == 0;
            int isMade = ask("bean", asked -> asked.bean(k, 10));
            holds("bean " + k + " behind refresh", answer >= 0 ? isMade == 1 || !isWanted : isMade == 0);
        }
    }

    private void get() {
        long name = random.nextInt(8) == 0 ? random.nextLong() : 'a' + random.nextInt(5);
        int answer = ask("get", asked -> asked.get(name));
        failure(answer);
        gotObject(answer, ask("get", asked -> asked.get(name)));
    }

    /** What is got a second time: of scope one the same object, of scope many another one. */
    private void gotObject(int answer, int again) {
        if (answer < 0) {
            return;
        }
        made++;
        int bean = ask("object", asked -> asked.object(answer, 1));
        holds("its bean", bean >= 0 && bean < beans);
        boolean isMany = ask("bean", asked -> asked.bean(bean, 8)) == 1;
        holds("the second time", isMany ? again > answer || again == FAILS : again == answer);
        is("it is made", ask("bean", asked -> asked.bean(bean, 10)), 1);
    }

    private void call() {
        int object = random.nextInt(4) == 0 ? number() : random.nextInt(4);
        int name = random.nextInt(4) == 0 ? number() : random.nextInt(3);
        int answer = ask("call", asked -> asked.call(object, name));
        failure(answer);
        if (answer >= 0 || answer == FAILS) {
            int bean = ask("object", asked -> asked.object(object, 1));
            holds("its bean has a lookup", ask("bean", asked -> asked.bean(bean, 3)) > 0);
            gotObject(answer, ask("call", asked -> asked.call(object, name)));
        }
    }

    private void close() {
        int before = ask("events", WiredBeans::events);
        int answer = ask("close", WiredBeans::close);
        is("how many events there are then", ask("events", WiredBeans::events), answer);
        for (int i = before; i < answer; i++) {
            int k = i;
            is("closing", ask("event", asked -> asked.event(k, 0)), 7);
        }
        for (int i = 0; i < beans; i++) {
            int k = i;
            is("none is made then", ask("bean", asked -> asked.bean(k, 10)), 0);
        }
        is("nothing more to close", ask("close", WiredBeans::close), answer);
    }

    private void events() {
        int count = ask("events", WiredBeans::events);
        holds("at most 400", count >= 0 && count <= 400);
        is("none behind", ask("event", asked -> asked.event(count, 0)), Check.NONE);
        int latest = Check.NONE;
        for (int i = 0; i < Math.min(count, 12); i++) {
            int k = i;
            int what = ask("event", asked -> asked.event(k, 0));
            int object = ask("event", asked -> asked.event(k, 1));
            int second = ask("event", asked -> asked.event(k, 2));
            int third = ask("event", asked -> asked.event(k, 3));
            holds("event " + k + " is one", what >= 1 && what <= 7);
            is("only a row's parts have no object", object == Check.NONE, what == 6);
            if (what <= 2) {
                is("its class", ask("object", asked -> asked.object(object, 0)), second);
                holds("numbers go on", latest == Check.NONE || object == latest + 1);
                latest = object;
            }
            holds("a number that it has not", what != 5 && what != 7 || third == 0);
        }
    }

    private void anyNumbers() {
        int k = number();
        int what = number();
        int fault = ask("fault", asked -> asked.fault(what));
        holds("another what", what >= 0 && what <= 3 || fault == Check.NONE);
        int event = ask("event", asked -> asked.event(k, what));
        holds("another event", k >= 0 && what >= 0 && what <= 3 || event == Check.NONE);
        int object = ask("object", asked -> asked.object(k, what));
        holds("another object", k >= 0 && k < 60 && (what == 0 || what == 1) || object == Check.NONE);
        int bean = ask("bean", asked -> asked.bean(k, what));
        holds("another bean", k >= 0 && k < beans && what >= 0 && what <= 11 || bean == Check.NONE);
    }
}
