/**
 * Promises 1 to 20: many long runs of calls, right and wrong ones mixed, each answered by the program and by the
 * model. The runs come of a written sequence of numbers, so they are the same each time. As a call that throws
 * leaves the model as it was, a change by one shows in what is answered after it.
 */
public final class ModelTest {
    private static final int RUNS = 4000;
    private static final int CALLS = 512;
    private static final String[] KINDS = {"begin", "line", "line", "line", "anew", "publish", "publish", "original",
        "rows", "stitch", "stitch", "need", "buy", "buy", "buy", "rule", "money", "lot", "swap", "left", "project",
        "project", "project", "take", "knit", "knit", "progress"};

    private static long sequence = 0;
    private static int wildness = 0;
    /** 0 for patterns that are mostly alike, so that copies are found; 1 for a few kinds, 2 for all. */
    private static int variety = 0;

    public static void main(String[] args) {
        for (int run = 0; run < RUNS; run++) {
            sequence = run;
            wildness = run % 4 == 0 ? 25 : 3;
            variety = run % 3;
            Site site = new Site("run " + run);
            Model model = new Model();
            for (int call = 0; call < CALLS; call++) {
                oneCall(site, model, call);
            }
        }
        Site.end();
    }

    private static int below(int bound) {
        sequence = sequence * 6364136223846793005L + 1442695040888963407L;
        return (int) ((sequence >>> 33) % bound);
    }

    /** Mostly from least to most, at times outside. */
    private static int from(int least, int most) {
        if (below(100) >= wildness) {
            return least + below(most - least + 1);
        }
        switch (below(4)) {
            case 0: return least - 1;
            case 1: return most + 1;
            case 2: return below(2) == 0 ? Integer.MIN_VALUE : Integer.MAX_VALUE;
            default: return least - 3 + below(most - least + 7);
        }
    }

    private static int person() {
        return from(0, 4);
    }

    private static int pattern(Model model) {
        return number(model.patternCount());
    }

    private static int lotNumber(Model model) {
        return number(model.lotCount());
    }

    private static int projectNumber(Model model) {
        return number(model.projectCount());
    }

    private static int number(int count) {
        return count == 0 ? from(0, 0) : from(0, count - 1);
    }

    private static int gauge() {
        return from(5, 20);
    }

    private static void oneCall(Site site, Model model, int call) {
        String kind = call < 4 ? "begin" : call < 12 ? "line" : KINDS[below(KINDS.length)];
        int a = 0;
        int b = 0;
        int c = 0;
        switch (kind) {
            case "begin":
                a = person();
                b = variety == 2 ? from(1, 20) : variety == 1 ? from(2, 3) : from(2, 2);
                c = from(0, 1000);
                site.expect(model.begin(a, b, c), text(kind, a, b, c));
                break;
            case "line":
                line(site, model);
                break;
            case "anew":
                a = pattern(model);
                b = variety == 0 ? 10 : gauge();
                site.expect(model.anew(a, b), text(kind, a, b));
                break;
            case "publish":
                a = pattern(model);
                site.expect(model.publish(a), text(kind, a));
                break;
            case "original":
                a = pattern(model);
                site.expect(model.original(a), text(kind, a));
                break;
            case "rows":
                a = pattern(model);
                site.expect(model.rows(a), text(kind, a));
                break;
            case "stitch":
                a = pattern(model);
                b = below(4) == 0 ? from(0, 39) : from(0, 5);
                c = below(4) == 0 ? from(0, 39) : from(0, 10);
                site.expect(model.stitch(a, b, c), text(below(2) == 0 ? "stitch" : "stitchByWork", a, b, c));
                break;
            case "need":
                a = pattern(model);
                b = gauge();
                site.expect(model.need(a, b), text(kind, a, b));
                break;
            case "buy":
                a = pattern(model);
                b = person();
                site.expect(model.buy(a, b), text(kind, a, b));
                break;
            case "rule":
                a = pattern(model);
                site.expect(model.rule(a), text(kind, a));
                break;
            case "money":
                a = person();
                site.expect(model.money(a), text(kind, a));
                break;
            default:
                callOfYarn(site, model, kind);
                break;
        }
    }

    private static void line(Site site, Model model) {
        int pattern = pattern(model);
        int knits = variety == 2 ? from(0, 9) : variety == 1 ? from(0, 2) : from(1, 1);
        int purls = variety == 2 ? from(0, 9) : variety == 1 ? from(0, 1) : from(1, 1);
        int shaping = variety == 2 ? from(-3, 3) : variety == 1 ? from(0, 1) : from(0, 0);
        int times = variety == 2 && below(2) == 0 ? from(1, 20) : from(1, 2);
        site.expect(model.line(pattern, knits, purls, shaping, times), text("line", pattern, knits, purls, shaping, times));
    }

    private static void callOfYarn(Site site, Model model, String kind) {
        int a = 0;
        int b = 0;
        int c = 0;
        switch (kind) {
            case "lot":
                a = person();
                b = gauge();
                c = below(3) == 0 ? from(1, 100000) : from(1, 500);
                site.expect(model.lot(a, b, c), text(kind, a, b, c));
                break;
            case "swap":
                a = lotNumber(model);
                b = lotNumber(model);
                site.expect(model.swap(a, b), text(kind, a, b));
                break;
            case "left":
                a = lotNumber(model);
                site.expect(model.left(a), text(kind, a));
                break;
            case "project":
                a = person();
                b = pattern(model);
                c = lotNumber(model);
                site.expect(model.project(a, b, c), text(kind, a, b, c));
                break;
            case "take":
                a = projectNumber(model);
                b = lotNumber(model);
                site.expect(model.take(a, b), text(kind, a, b));
                break;
            case "knit":
                a = projectNumber(model);
                b = below(2) == 0 ? from(1, 3) : from(1, 40);
                site.expect(model.knit(a, b), text(kind, a, b));
                break;
            default:
                a = projectNumber(model);
                site.expect(model.progress(a), text(kind, a));
                break;
        }
    }

    private static String text(String name, int... arguments) {
        StringBuilder text = new StringBuilder(name).append('(');
        for (int i = 0; i < arguments.length; i++) {
            text.append(i == 0 ? "" : ", ").append(arguments[i]);
        }
        return text.append(')').toString();
    }
}
