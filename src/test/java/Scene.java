import java.util.ArrayList;
import java.util.Arrays;
import java.util.List;
import java.util.function.IntUnaryOperator;

/**
 * Calls that bring a new Yarncourt to some state. Each check is made on an object of its own that was brought there.
 * For a call that throws, a second object is brought there without that call, and both are asked the same questions:
 * as all the answers must be alike, the call changed nothing.
 */
final class Scene {
    static final String INDEX = "IndexOutOfBoundsException";
    static final String ARGUMENT = "IllegalArgumentException";
    static final String STATE = "IllegalStateException";

    private static final int PEOPLE = 5;
    private static final int MOST_PATTERNS = 16;
    private static final int MOST_LOTS = 20;
    private static final int MOST_PROJECTS = 12;

    private final String sentence;
    private final List<String> setUp;
    private List<String> untouched = null;

    Scene(String sentence, String... setUp) {
        this(sentence, Arrays.asList(setUp));
    }

    private Scene(String sentence, List<String> setUp) {
        this.sentence = sentence;
        this.setUp = setUp;
    }

    /** Something of everything, so that a wrong change has something to spoil. */
    static Scene busy(String sentence) {
        return new Scene(sentence,
                // 0: published; 1: a copy of 0 that 2 and 3 bought; 2: without lines; 3: with lines, not published.
                "begin(0, 4, 100)", "line(0, 2, 1, 1, 2)", "line(0, 1, 2, -1, 1)", "publish(0)",
                "begin(1, 4, 30)", "line(1, 2, 1, 1, 2)", "line(1, 1, 2, 0, 1)", "publish(1)", "buy(1, 2)", "buy(1, 3)",
                "begin(2, 5, 20)", "begin(3, 6, 40)", "line(3, 1, 1, 0, 2)",
                // 4: a copy of 0 that 1 bought, barred.
                "begin(4, 4, 50)", "line(4, 2, 1, 1, 2)", "line(4, 1, 2, 3, 1)", "publish(4)", "buy(4, 1)", "rule(4)",
                "lot(0, 10, 1000)", "lot(1, 5, 2000)", "lot(2, 20, 3000)", "lot(0, 7, 400)",
                "project(0, 0, 0)", "project(2, 1, 2)", "project(1, 4, 1)", "knit(0, 1)", "knit(1, 2)");
    }

    Scene with(String... more) {
        List<String> all = new ArrayList<>(setUp);
        all.addAll(Arrays.asList(more));
        return new Scene(sentence, all);
    }

    /** The call once more and once more, with the numbers from first to last in place of #. */
    Scene withEach(String call, int first, int last) {
        List<String> all = new ArrayList<>(setUp);
        for (int number = first; number <= last; number++) {
            all.add(put(call, number));
        }
        return new Scene(sentence, all);
    }

    Site open() {
        return new Site(sentence).accepted(setUp.toArray(new String[0]));
    }

    /** How many calls bring a site to the scene. */
    int calls() {
        return setUp.size();
    }

    /** The calls, made one after the other, are answered with numbers and change nothing. */
    Scene leavesAllAsItWas(String... questions) {
        checkUnchanged(open().accepted(questions), String.join(", ", questions));
        return this;
    }

    /** Each of the calls, made alone, throws IndexOutOfBoundsException and changes nothing. */
    Scene noSuch(String... calls) {
        return refusals(INDEX, calls);
    }

    /** Each of the calls, made alone, throws IllegalArgumentException and changes nothing. */
    Scene outOfRange(String... calls) {
        return refusals(ARGUMENT, calls);
    }

    /** Each of the calls, made alone, throws IllegalStateException and changes nothing. */
    Scene refused(String... calls) {
        return refusals(STATE, calls);
    }

    /** The call with a number in place of # is answered from least to most, and throws the exception beyond. */
    Scene range(String exception, String call, int least, int most, IntUnaryOperator due) {
        for (int value : new int[] {least, least + 1, most - 1, most}) {
            open().due(due.applyAsInt(value), put(call, value));
        }
        for (int value : new int[] {Integer.MIN_VALUE, least - 1, most + 1, Integer.MAX_VALUE}) {
            refusals(exception, put(call, value));
        }
        return this;
    }

    /** Of the numbers that # may be, 0 to count - 1 are known to the call, and no others. */
    Scene numbered(String call, int count) {
        for (int number = 0; number < count; number++) {
            String got = open().answer(put(call, number));
            Site.check(sentence + ": " + put(call, number) + " answered " + got, false, got.startsWith(INDEX));
        }
        return noSuch(put(call, Integer.MIN_VALUE), put(call, -1), put(call, count), put(call, Integer.MAX_VALUE));
    }

    private static String put(String call, int value) {
        return call.replace("#", String.valueOf(value));
    }

    private Scene refusals(String exception, String... calls) {
        for (String call : calls) {
            checkUnchanged(open().expect(exception, call), call);
        }
        return this;
    }

    private void checkUnchanged(Site site, String calls) {
        List<String> touched = looked(site);
        if (untouched == null) {
            untouched = looked(open());
        }
        Site.check(sentence + ", after " + calls, "nothing changed", difference(untouched, touched));
    }

    private static String difference(List<String> untouched, List<String> touched) {
        for (int i = 0; i < untouched.size() && i < touched.size(); i++) {
            if (!untouched.get(i).equals(touched.get(i))) {
                return "without it " + untouched.get(i) + ", with it " + touched.get(i);
            }
        }
        return untouched.size() == touched.size() ? "nothing changed" : "another number of patterns";
    }

    /** All that can be asked, then calls that show what no question shows: owners, buyers, bars, room for more. */
    private static List<String> looked(Site site) {
        List<String> seen = new ArrayList<>();
        for (int pattern = 0; pattern < MOST_PATTERNS; pattern++) {
            lookAtPattern(site, seen, pattern);
        }
        askAll(site, seen);
        String copy = ask(site, seen, "anew(0, 10)");
        if (Site.isNumber(copy)) {
            ask(site, seen, "publish(" + copy + ")");
        }
        each(site, seen, "line(#, 1, 1, 1, 1)", MOST_PATTERNS);
        each(site, seen, "need(#, 5)", MOST_PATTERNS);
        each(site, seen, "publish(#)", MOST_PATTERNS);
        for (int person = 0; person < PEOPLE; person++) {
            each(site, seen, "buy(#, " + person + ")", MOST_PATTERNS);
        }
        each(site, seen, "rule(#)", MOST_PATTERNS);
        each(site, seen, "knit(#, 40)", MOST_PROJECTS);
        each(site, seen, "swap(0, #)", MOST_LOTS);
        askAll(site, seen);
        ask(site, seen, "begin(0, 1, 0)");
        ask(site, seen, "lot(0, 5, 1)");
        return seen;
    }

    private static void lookAtPattern(Site site, List<String> seen, int pattern) {
        String rows = ask(site, seen, "rows(" + pattern + ")");
        if (!Site.isNumber(rows)) {
            return;
        }
        ask(site, seen, "original(" + pattern + ")");
        ask(site, seen, "need(" + pattern + ", 10)");
        int last = Integer.parseInt(rows) - 1;
        if (last >= 0) {
            ask(site, seen, "stitch(" + pattern + ", " + last + ", 3)");
            ask(site, seen, "stitchByWork(" + pattern + ", " + last + ", 3)");
        }
    }

    private static void askAll(Site site, List<String> seen) {
        each(site, seen, "money(#)", PEOPLE);
        each(site, seen, "left(#)", MOST_LOTS);
        each(site, seen, "progress(#)", MOST_PROJECTS);
    }

    private static void each(Site site, List<String> seen, String call, int count) {
        for (int number = 0; number < count; number++) {
            ask(site, seen, put(call, number));
        }
    }

    private static String ask(Site site, List<String> seen, String call) {
        String got = site.answer(call);
        seen.add(call + " answered " + got);
        return got;
    }
}
