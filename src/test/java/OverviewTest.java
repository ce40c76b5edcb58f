import java.lang.reflect.Field;
import java.lang.reflect.Modifier;

/**
 * "What it is", the constants and the first sentences of "Terms": each part of the sentence that says what the site
 * is, each call as the last of 512, what may be asked without a change, and sums in cents.
 */
public final class OverviewTest {
    private static final String[] QUESTIONS = {"original(#)", "rows(#)", "stitch(#, 0, 0)", "stitch(#, 2, 39)",
        "stitchByWork(#, 0, 0)", "stitchByWork(#, 2, 39)", "need(#, 5)", "need(#, 20)", "money(#)", "left(#)",
        "progress(#)"};

    public static void main(String[] args) {
        programsOfRowsAndRepeats();
        chartsDrawnFromThem();
        yarnByLotsThatIsSwapped();
        workedOutAnewForAnotherGauge();
        copiesFoundByWhatTheyMake();
        rulingsThatMoveWhatWasPaid();
        progressByRows();
        eachCallAsTheLastOf512();
        constantsOfTheFace();
        questionsChangeNothing();
        questionsOfPatternsNotPublished();
        sumsInCents();
        Site.end();
    }

    private static void programsOfRowsAndRepeats() {
        Site site = new Site("Patterns are programs of rows and repeats.");
        site.due(0, "begin(0, 2, 0)").due(20, "line(0, 1, 0, 0, 20)").due(30, "line(0, 0, 1, 0, 10)").due(30, "rows(0)");
        site.due(1, "stitch(0, 0, 0)").due(1, "stitch(0, 19, 1)").due(2, "stitch(0, 20, 0)").due(2, "stitch(0, 29, 1)");
    }

    private static void chartsDrawnFromThem() {
        Site site = new Site("Charts are drawn from patterns.").due(0, "begin(0, 2, 0)").noSuch("stitch(0, 0, 0)");
        site.due(1, "line(0, 1, 1, 0, 1)").due(1, "stitch(0, 0, 0)").due(2, "stitch(0, 0, 1)").noSuch("stitch(0, 1, 0)");
        // A line that comes later is drawn below, and what stands already is not drawn again.
        site.due(2, "line(0, 0, 1, 0, 1)").due(1, "stitch(0, 0, 0)").due(2, "stitch(0, 0, 1)").due(2, "stitch(0, 1, 0)");
    }

    private static void yarnByLotsThatIsSwapped() {
        Site site = new Site("Yarn is by lots, and is swapped.").due(0, "lot(1, 5, 60)").due(1, "lot(2, 6, 70)");
        site.due(60, "left(0)").due(70, "left(1)").due(2, "swap(0, 1)").due(60, "left(0)").due(70, "left(1)");
    }

    private static void workedOutAnewForAnotherGauge() {
        Site site = new Site("Patterns are worked out anew for another gauge.");
        site.due(0, "begin(0, 4, 0)").due(4, "line(0, 1, 1, 0, 4)").due(1, "anew(0, 15)").due(6, "rows(1)");
        site.due(2, "stitch(1, 0, 5)").due(0, "stitch(1, 0, 6)").due(4, "rows(0)").due(0, "stitch(0, 0, 4)");
    }

    private static void copiesFoundByWhatTheyMake() {
        // Not one number of the two programs' lines is the same but the shaping; their charts are: KKPP twice.
        Site site = new Site("Copied patterns are found by what they make.");
        site.due(0, "begin(3, 4, 0)").due(2, "line(0, 2, 2, 0, 2)").due(0, "publish(0)").due(1, "begin(1, 4, 50)");
        site.due(1, "line(1, 2, 3, 0, 1)").due(2, "line(1, 2, 9, 0, 1)").due(0, "publish(1)").due(0, "rule(1)");
        // The same line makes another chart of another first width.
        site.due(2, "begin(4, 5, 0)").due(2, "line(2, 2, 2, 0, 2)").due(2, "publish(2)").refused("rule(2)");
    }

    private static void rulingsThatMoveWhatWasPaid() {
        Site site = new Site("Rulings move what was paid.").due(0, "begin(0, 4, 0)").due(1, "begin(1, 4, 70)");
        site.due(1, "line(0, 1, 1, 0, 1)").due(1, "line(1, 1, 1, 0, 1)").due(0, "publish(0)").due(0, "publish(1)");
        site.due(70, "buy(1, 2)").due(140, "buy(1, 3)").due(0, "money(0)").due(140, "money(1)").due(140, "rule(1)");
        site.due(140, "money(0)").due(0, "money(1)").due(-70, "money(2)").due(-70, "money(3)").due(0, "money(4)");
    }

    private static void progressByRows() {
        Site site = new Site("Knitters' progress is by rows.").due(0, "begin(0, 4, 0)").due(3, "line(0, 1, 1, 0, 3)");
        site.due(0, "publish(0)").due(0, "lot(0, 5, 149)").due(0, "project(0, 0, 0)").due(0, "progress(0)");
        site.due(1, "knit(0, 1)").due(1, "progress(0)").due(1, "knit(0, 9)").due(2, "progress(0)").due(49, "left(0)");
    }

    private static void eachCallAsTheLastOf512() {
        String[][] calls = {{"5", "begin(0, 4, 100)"}, {"3", "line(3, 1, 1, 0, 1)"}, {"5", "anew(0, 10)"},
            {"3", "publish(3)"}, {"0", "original(1)"}, {"3", "rows(0)"}, {"1", "stitch(0, 2, 0)"},
            {"1", "stitchByWork(0, 2, 0)"}, {"360", "need(0, 10)"}, {"40", "buy(1, 4)"}, {"60", "rule(1)"},
            {"-30", "money(3)"}, {"4", "lot(0, 5, 1)"}, {"1", "swap(0, 1)"}, {"910", "left(0)"},
            {"3", "project(0, 0, 0)"}, {"0", "take(0, 3)"}, {"2", "knit(0, 40)"}, {"1", "progress(0)"},
            {Scene.INDEX, "rows(5)"}, {Scene.ARGUMENT, "need(0, 4)"}, {Scene.STATE, "publish(0)"}};
        Scene busy = Scene.busy("An object is used for at most 512 calls.");
        int made = busy.calls();
        for (String[] call : calls) {
            Site site = busy.open();
            for (int number = made + 1; number < 512; number++) {
                site.refused("publish(2)");
            }
            site.expect(call[0], call[1]);
        }
    }

    private static void constantsOfTheFace() {
        for (String name : new String[] {"NONE", "NOTHING", "KNIT", "PURL"}) {
            try {
                Field field = Yarncourt.class.getDeclaredField(name);
                int due = Modifier.PUBLIC | Modifier.STATIC | Modifier.FINAL;
                Site.check(name + " is public static final", due, field.getModifiers());
                Site.check(name + " is an int", int.class, field.getType());
            } catch (NoSuchFieldException e) {
                Site.fail(name, "is missing");
            }
        }
        Site.check("a switch takes them", "none nothing knit purl",
                named(-1) + " " + named(0) + " " + named(1) + " " + named(2));
    }

    private static String named(int answer) {
        switch (answer) {
            case Yarncourt.NONE: return "none";
            case Yarncourt.NOTHING: return "nothing";
            case Yarncourt.KNIT: return "knit";
            case Yarncourt.PURL: return "purl";
            default: return "other";
        }
    }

    private static void questionsChangeNothing() {
        Scene scene = Scene.busy("Charts, needs, money and progress are asked, and that changes nothing.");
        for (String question : QUESTIONS) {
            for (int number = 0; number < 2; number++) {
                String call = question.replace("#", String.valueOf(number));
                scene.leavesAllAsItWas(call).leavesAllAsItWas(call, call, call);
            }
        }
        scene.leavesAllAsItWas("rows(4)", "money(4)", "left(3)", "progress(2)", "need(4, 9)", "original(4)",
                "stitch(4, 1, 1)", "stitchByWork(4, 1, 1)", "rows(4)", "money(4)", "left(3)", "progress(2)");
        // A barred copy's lot, project and money too.
        scene.with("swap(0, 1)", "rule(1)").leavesAllAsItWas("money(0)", "money(1)", "left(0)", "left(1)", "progress(0)");
    }

    private static void questionsOfPatternsNotPublished() {
        Site site = new Site("Charts and needs are asked of each pattern, published or not.");
        site.due(0, "begin(0, 3, 10)").due(0, "rows(0)").due(0, "need(0, 5)").due(-1, "original(0)");
        site.due(2, "line(0, 1, 2, 1, 2)");
        for (int time = 0; time < 2; time++) {
            // KPP and KPPK, before it is published and after.
            site.due(2, "rows(0)").due(90, "need(0, 5)").due(1, "stitch(0, 1, 3)").due(1, "stitchByWork(0, 1, 3)");
            site.due(0, "stitch(0, 0, 3)").due(0, "stitchByWork(0, 0, 3)").due(2, "stitch(0, 0, 2)");
            site.due(time - 1, "original(0)");
            site.answer("publish(0)");
        }
    }

    private static void sumsInCents() {
        Site site = new Site("All sums are in cents.").due(0, "begin(0, 4, 1)").due(1, "begin(0, 4, 999)");
        site.due(1, "line(0, 1, 1, 0, 1)").due(2, "line(1, 1, 1, 0, 2)").due(0, "publish(0)").due(1, "publish(1)");
        site.due(1, "buy(0, 1)").due(1000, "buy(1, 1)").due(1001, "buy(0, 2)").due(-1000, "money(1)").due(-1, "money(2)");
    }
}
