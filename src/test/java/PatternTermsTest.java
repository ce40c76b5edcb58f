/**
 * The sentences of "What it is" and of "Terms" about patterns that name a boundary case, each with a test of its own,
 * at the bound and one step beyond it. What is written as a scene's name is the sentence.
 */
public final class PatternTermsTest {
    private static final String[] WAYS = {"stitch", "stitchByWork"};

    public static void main(String[] args) {
        callsUpTo512();
        people();
        patternsFromNumber0();
        patternsUpTo16();
        patternsUpTo16ByAnew();
        firstWidth();
        upToSixLines();
        upToSixLinesByAnew();
        asManyRowsAsWorked();
        linesInTheirOrder();
        byTurns();
        aTurnAndTheRowsEnd();
        shapingOfTheRowBefore();
        neverLessThan1();
        neverMoreThan40();
        notBeyondTheBoundInSecret();
        atMost40Rows();
        alteredUntilPublished();
        lowestInTheOrderOfPublishing();
        asManyRowsInTheSameChart();
        sameStitchesInEachRow();
        copyIfItsOriginalHasAnotherOwner();
        notPublishedWhenAnew();
        sameOwnerAndPriceWhenAnew();
        widthWhenAnew();
        timesWhenAnew();
        atMost40RowsWhenAnew();
        Site.end();
    }

    private static void callsUpTo512() {
        Site site = new Site("An object is used for at most 512 calls.");
        site.due(0, "begin(0, 3, 10)").due(3, "line(0, 2, 1, 1, 3)").due(0, "publish(0)").due(0, "lot(0, 5, 80)");
        for (int call = 5; call < 511; call++) {
            site.noSuch("progress(0)");
        }
        // Calls 511 and 512.
        site.due(0, "project(0, 0, 0)").due(2, "knit(0, 40)");
    }

    private static void people() {
        Scene scene = new Scene("People are 0 to 4.", "begin(2, 4, 10)", "line(0, 1, 1, 0, 1)", "publish(0)")
                .withEach("lot(#, 5, 100)", 0, 4);
        scene.range(Scene.INDEX, "begin(#, 4, 10)", 0, 4, person -> 1);
        scene.range(Scene.INDEX, "buy(0, #)", 0, 4, person -> 10);
        scene.range(Scene.INDEX, "money(#)", 0, 4, person -> 0);
        scene.range(Scene.INDEX, "lot(#, 5, 100)", 0, 4, person -> 5);
        Scene bought = scene.with("buy(0, 0)", "buy(0, 1)", "buy(0, 3)", "buy(0, 4)");
        for (int person = 0; person <= 4; person++) {
            bought.open().due(0, "project(" + person + ", 0, " + person + ")");
        }
        bought.noSuch("project(-1, 0, 0)", "project(5, 0, 4)");
    }

    private static void patternsFromNumber0() {
        String sentence = "Patterns are numbered from 0.";
        allTakePatterns(new Scene(sentence), 0);
        allTakePatterns(new Scene(sentence, "lot(0, 5, 100)", "begin(0, 4, 10)"), 1);
        allTakePatterns(new Scene(sentence, "lot(0, 5, 100)", "begin(0, 4, 10)", "begin(1, 4, 10)")
                .with("line(1, 1, 1, 0, 2)"), 2);
    }

    private static void patternsUpTo16() {
        Scene scene = new Scene("Patterns are numbered from 0, up to 16.").withEach("begin(0, 4, #)", 0, 14);
        scene.open().due(15, "begin(0, 4, 15)").due(0, "rows(15)").noSuch("rows(16)");
        scene.noSuch("rows(15)");
        Scene full = scene.with("begin(0, 4, 15)", "lot(0, 5, 100)");
        full.refused("begin(0, 4, 16)", "begin(4, 1, 0)").noSuch("rows(16)");
        allTakePatterns(full, 16);
    }

    private static void patternsUpTo16ByAnew() {
        Scene scene = new Scene("Patterns are numbered from 0, up to 16; those worked out anew are patterns too.",
                "begin(0, 4, 0)", "line(0, 1, 1, 0, 1)").withEach("anew(0, 10)", 1, 14);
        scene.open().due(15, "anew(0, 10)").due(1, "rows(15)").refused("anew(0, 10)", "begin(0, 4, 0)").noSuch("rows(16)");
        scene.open().due(15, "begin(0, 4, 0)").refused("anew(0, 10)", "begin(0, 4, 0)").noSuch("rows(16)");
        scene.with("anew(0, 10)").refused("anew(0, 10)", "anew(15, 20)", "begin(0, 4, 0)");
    }

    private static void allTakePatterns(Scene scene, int count) {
        scene.numbered("line(#, 1, 1, 0, 1)", count).numbered("anew(#, 10)", count).numbered("publish(#)", count);
        scene.numbered("original(#)", count).numbered("rows(#)", count).numbered("need(#, 10)", count);
        scene.numbered("buy(#, 4)", count).numbered("rule(#)", count);
        scene.noSuch("stitch(-1, 0, 0)", "stitch(" + count + ", 0, 0)");
        scene.noSuch("stitchByWork(-1, 0, 0)", "stitchByWork(" + count + ", 0, 0)");
        scene.noSuch("project(0, -1, 0)", "project(0, " + count + ", 0)");
    }

    private static void firstWidth() {
        Scene scene = new Scene("A pattern has a first width of 1 to 20 stitches; the first row has the first width.");
        for (int width = 1; width <= 20; width++) {
            Site site = scene.with("begin(0, " + width + ", 0)", "line(0, 1, 0, 0, 1)").open();
            widthIs(site, 0, 0, width);
            site.due(2 * width * 5, "need(0, 5)");
        }
        scene.outOfRange("begin(0, 0, 0)", "begin(0, 21, 0)");
    }

    private static void widthIs(Site site, int pattern, int row, int width) {
        for (String way : WAYS) {
            String place = way + "(" + pattern + ", " + row + ", ";
            site.accepted(place + "0)").due(Yarncourt.NOTHING, place + width + ")");
            String last = site.answer(place + (width - 1) + ")");
            Site.check(place + (width - 1) + ") is a stitch", true, last.equals("1") || last.equals("2"));
        }
    }

    private static void upToSixLines() {
        Scene five = new Scene("A pattern has up to 6 lines.", "begin(0, 4, 0)", "begin(1, 4, 0)")
                .withEach("line(0, 1, #, 0, 1)", 1, 5);
        five.open().due(6, "line(0, 1, 6, 0, 1)").due(6, "rows(0)").due(1, "line(1, 1, 1, 0, 1)");
        Scene six = five.with("line(0, 1, 6, 0, 1)");
        six.refused("line(0, 1, 7, 0, 1)", "line(0, 0, 1, 0, 1)").open().due(1, "line(1, 1, 1, 0, 1)");
    }

    private static void upToSixLinesByAnew() {
        Scene five = new Scene("A pattern has up to 6 lines; one worked out anew has the same ones.", "begin(0, 4, 0)")
                .withEach("line(0, 1, #, 0, 1)", 1, 5);
        five.with("anew(0, 10)").open().due(6, "line(1, 1, 1, 0, 1)").refused("line(1, 1, 1, 0, 1)").due(5, "rows(0)");
        five.with("line(0, 1, 6, 0, 1)", "anew(0, 5)").refused("line(1, 1, 1, 0, 1)", "line(0, 1, 1, 0, 1)");
    }

    private static void asManyRowsAsWorked() {
        Scene scene = new Scene("It makes for each line, in their order, as many rows as it is worked.", "begin(0, 1, 0)");
        scene.open().due(1, "line(0, 1, 0, 0, 1)").due(2, "line(0, 0, 1, 0, 1)").due(1, "stitch(0, 0, 0)")
                .due(2, "stitch(0, 1, 0)")
                .due(1, "stitchByWork(0, 0, 0)").due(2, "stitchByWork(0, 1, 0)")
                .noSuch("stitch(0, 2, 0)", "stitchByWork(0, 2, 0)");
        for (String way : WAYS) {
            scene.open().due(20, "line(0, 1, 0, 0, 20)").due(22, "line(0, 0, 1, 0, 2)").due(25, "line(0, 1, 0, 0, 3)")
                    .due(1, way + "(0, 0, 0)").due(1, way + "(0, 19, 0)").due(2, way + "(0, 20, 0)")
                    .due(2, way + "(0, 21, 0)")
                    .due(1, way + "(0, 22, 0)").due(1, way + "(0, 24, 0)").noSuch(way + "(0, 25, 0)");
        }
    }

    private static void linesInTheirOrder() {
        Site site = new Site("For each line, in their order: all six of them.");
        site.due(0, "begin(0, 9, 0)");
        for (int line = 1; line <= 6; line++) {
            site.due(line, "line(0, " + line + ", 9, 0, 1)");
        }
        for (String way : WAYS) {
            for (int row = 0; row < 6; row++) {
                site.due(1, way + "(0, " + row + ", " + row + ")").due(2, way + "(0, " + row + ", " + (row + 1) + ")");
            }
        }
    }

    private static void rowIs(Site site, int row, String stitches) {
        for (String way : WAYS) {
            for (int place = 0; place < stitches.length(); place++) {
                int due = stitches.charAt(place) == 'K' ? Yarncourt.KNIT : Yarncourt.PURL;
                site.due(due, way + "(0, " + row + ", " + place + ")");
            }
            site.due(Yarncourt.NOTHING, way + "(0, " + row + ", " + stitches.length() + ")");
        }
    }

    private static void byTurns() {
        String sentence = "The stitches go by turns, as many knits as the line tells, then as many purls, and so on.";
        Site site = new Site(sentence).due(0, "begin(0, 20, 0)");
        // None, one, and most of each.
        site.due(1, "line(0, 0, 1, 0, 1)").due(2, "line(0, 1, 0, 0, 1)").due(3, "line(0, 1, 1, 0, 1)");
        site.due(4, "line(0, 9, 9, 0, 1)").due(5, "line(0, 0, 9, 0, 1)").due(6, "line(0, 9, 0, 0, 1)");
        rowIs(site, 0, "PPPPPPPPPPPPPPPPPPPP");
        rowIs(site, 1, "KKKKKKKKKKKKKKKKKKKK");
        rowIs(site, 2, "KPKPKPKPKPKPKPKPKPKP");
        rowIs(site, 3, "KKKKKKKKKPPPPPPPPPKK");
        rowIs(site, 4, "PPPPPPPPPPPPPPPPPPPP");
        rowIs(site, 5, "KKKKKKKKKKKKKKKKKKKK");
    }

    private static void aTurnAndTheRowsEnd() {
        Site site = new Site("The stitches go by turns, as far as the row is wide.").due(0, "begin(0, 5, 0)");
        // A row ends within the knits, with them, within the purls, with them, and behind them; the next starts anew.
        site.due(1, "line(0, 6, 2, 0, 1)").due(2, "line(0, 5, 2, 0, 1)").due(3, "line(0, 3, 3, 0, 1)");
        site.due(4, "line(0, 3, 2, 0, 1)").due(6, "line(0, 3, 1, 0, 2)");
        rowIs(site, 0, "KKKKK");
        rowIs(site, 1, "KKKKK");
        rowIs(site, 2, "KKKPP");
        rowIs(site, 3, "KKKPP");
        rowIs(site, 4, "KKKPK");
        rowIs(site, 5, "KKKPK");
    }

    private static void shapingOfTheRowBefore() {
        Site site = new Site("Each other row is as wide as the row before it and the shaping of the line of that row before.");
        site.due(0, "begin(0, 10, 0)").due(2, "line(0, 1, 0, -3, 2)").due(3, "line(0, 0, 1, 3, 1)");
        site.due(5, "line(0, 1, 0, 0, 2)").due(6, "line(0, 1, 0, 1, 1)").due(7, "line(0, 1, 0, -1, 1)");
        int[] widths = {10, 7, 4, 7, 7, 7, 8};
        for (int row = 0; row < widths.length; row++) {
            widthIs(site, 0, row, widths[row]);
        }
    }

    private static void neverLessThan1() {
        // From each width, the widest that a step takes below 1 among them, to one that is due behind it.
        int[][] steps = {{1, -1, 1}, {2, -1, 1}, {3, -1, 2}, {1, -2, 1}, {2, -2, 1}, {3, -2, 1}, {4, -2, 2},
            {1, -3, 1}, {2, -3, 1}, {3, -3, 1}, {4, -3, 1}, {5, -3, 2}, {1, 0, 1}, {1, 1, 2}, {1, 3, 4}};
        for (int[] step : steps) {
            Site site = new Site("A row is never less than 1 wide, from " + step[0] + " by " + step[1]);
            site.due(0, "begin(0, " + step[0] + ", 0)").due(2, "line(0, 1, 0, " + step[1] + ", 2)");
            widthIs(site, 0, 1, step[2]);
            site.due(10 * (step[0] + step[2]), "need(0, 5)");
        }
    }

    private static void neverMoreThan40() {
        // Row 7 is 37 wide if the first row is 16 wide, and so on: each of the first seven rows adds 3.
        int[][] steps = {{37, 2, 39}, {37, 3, 40}, {38, 1, 39}, {38, 2, 40}, {38, 3, 40}, {39, 0, 39}, {39, 1, 40},
            {39, 2, 40}, {39, 3, 40}, {40, 0, 40}, {40, 1, 40}, {40, 3, 40}, {40, -1, 39}, {40, -3, 37}};
        for (int[] step : steps) {
            Site site = new Site("A row is never more than 40 wide, from " + step[0] + " by " + step[1]);
            site.due(0, "begin(0, " + (step[0] - 21) + ", 0)").due(7, "line(0, 1, 0, 3, 7)");
            site.due(9, "line(0, 1, 0, " + step[1] + ", 2)");
            widthIs(site, 0, 7, step[0]);
            widthIs(site, 0, 8, step[2]);
        }
    }

    private static void notBeyondTheBoundInSecret() {
        String sentence = "A row behind one at a bound goes on from the bound.";
        Site narrow = new Site(sentence).due(0, "begin(0, 2, 0)").due(4, "line(0, 1, 0, -3, 4)")
                .due(6, "line(0, 1, 0, 1, 2)");
        int[] widths = {2, 1, 1, 1, 1, 2};
        for (int row = 0; row < widths.length; row++) {
            widthIs(narrow, 0, row, widths[row]);
        }
        Site wide = new Site(sentence).due(0, "begin(0, 20, 0)").due(10, "line(0, 1, 0, 3, 10)")
                .due(12, "line(0, 1, 0, -1, 2)");
        int[] wider = {20, 23, 26, 29, 32, 35, 38, 40, 40, 40, 40, 39};
        for (int row = 0; row < wider.length; row++) {
            widthIs(wide, 0, row, wider[row]);
        }
    }

    private static void atMost40Rows() {
        String sentence = "A pattern has at most 40 rows in all.";
        Scene twenty = new Scene(sentence, "begin(0, 4, 0)", "line(0, 1, 1, 0, 20)");
        twenty.open().due(39, "line(0, 1, 1, 0, 19)").due(39, "rows(0)");
        twenty.open().due(40, "line(0, 1, 1, 0, 20)").due(40, "rows(0)").due(1, "stitch(0, 39, 0)")
                .noSuch("stitch(0, 40, 0)");
        Scene most = twenty.with("line(0, 1, 1, 0, 19)");
        most.open().due(40, "line(0, 0, 1, 0, 1)").due(2, "stitch(0, 39, 0)").due(2, "stitchByWork(0, 39, 0)");
        most.refused("line(0, 1, 1, 0, 2)", "line(0, 1, 1, 0, 3)", "line(0, 1, 1, 0, 20)");
        twenty.with("line(0, 1, 1, 0, 20)").refused("line(0, 1, 1, 0, 1)", "line(0, 1, 1, 0, 20)");
        // One row too many with the third line, though not with the fourth that comes instead.
        twenty.with("line(0, 1, 1, 0, 1)").refused("line(0, 1, 1, 0, 20)").open()
                .refused("line(0, 1, 1, 0, 20)").due(40, "line(0, 1, 1, 0, 19)");
    }

    private static void alteredUntilPublished() {
        Scene scene = new Scene("A pattern is altered until it is published.", "begin(0, 4, 0)", "begin(0, 4, 0)",
                "line(0, 1, 1, 0, 1)");
        scene.open().due(2, "line(0, 1, 1, 0, 1)").due(2, "anew(0, 10)").due(3, "line(0, 1, 1, 0, 1)").due(0, "publish(0)")
                .refused("line(0, 1, 1, 0, 1)").due(1, "line(1, 1, 1, 0, 1)").due(3, "line(2, 1, 1, 0, 1)");
        scene.with("publish(0)").refused("line(0, 1, 1, 0, 1)");
    }

    private static void lowestInTheOrderOfPublishing() {
        Scene scene = new Scene("The original is the lowest published one, in the order of publishing, of the same chart.")
                .withEach("begin(#, 4, 10)", 0, 4).withEach("line(#, 2, 1, 0, 3)", 0, 4);
        scene.open().due(0, "publish(0)").due(0, "publish(1)").due(0, "original(1)").due(0, "original(0)")
                .due(-1, "original(2)");
        scene.open().due(4, "publish(4)").due(4, "publish(0)").due(4, "publish(3)").due(4, "original(4)")
                .due(4, "original(0)")
                .due(4, "original(3)").due(-1, "original(1)");
        // One that is not published is no original, though its chart is the same and it was written before.
        scene.open().due(2, "publish(2)").due(2, "publish(1)").due(2, "original(1)").due(2, "original(2)")
                .due(-1, "original(0)");
        // A barred copy is not made an original by the bar, nor its original by the ruling.
        scene.with("publish(3)", "publish(1)", "rule(1)").open().due(3, "publish(0)").due(3, "original(1)")
                .due(3, "original(3)");
    }

    private static void asManyRowsInTheSameChart() {
        Scene scene = new Scene("The same chart: as many rows, and the same stitches in each.",
                "begin(0, 4, 0)", "line(0, 2, 1, 0, 3)", "publish(0)", "begin(1, 4, 0)");
        scene.open().due(2, "line(1, 2, 1, 0, 2)").due(1, "publish(1)").due(1, "original(1)");
        scene.open().due(3, "line(1, 2, 1, 0, 3)").due(0, "publish(1)").due(0, "original(1)");
        scene.open().due(4, "line(1, 2, 1, 0, 4)").due(1, "publish(1)").due(1, "original(1)");
        scene.open().due(2, "line(1, 2, 1, 0, 2)").due(3, "line(1, 2, 1, -3, 1)").due(0, "publish(1)");
        Scene longest = new Scene("The same chart of 40 rows.", "begin(0, 20, 0)", "line(0, 2, 1, 3, 20)",
                "line(0, 2, 1, 0, 19)",
                "line(0, 9, 9, 0, 1)", "publish(0)", "begin(1, 20, 0)", "line(1, 2, 1, 3, 20)", "line(1, 2, 1, 0, 19)");
        longest.open().due(1, "publish(1)");
        longest.open().due(40, "line(1, 9, 9, 3, 1)").due(0, "publish(1)");
        longest.open().due(40, "line(1, 9, 8, 0, 1)").due(1, "publish(1)");
    }

    private static void sameStitchesInEachRow() {
        Scene scene = new Scene("The same stitches in each row.", "begin(0, 6, 0)", "line(0, 2, 2, 0, 1)",
                "line(0, 2, 4, 0, 1)",
                "line(0, 3, 3, 0, 1)", "publish(0)", "begin(1, 6, 0)");
        String middle = "line(1, 2, 4, 0, 1)";
        String last = "line(1, 3, 3, 0, 1)";
        // Rows KKPPKK, KKPPPP, KKKPPP.
        scene.with("line(1, 2, 2, 0, 1)", middle, last).open().due(0, "publish(1)");
        scene.with("line(1, 2, 2, 0, 1)", "line(1, 2, 9, 0, 1)", "line(1, 3, 9, 2, 1)").open().due(0, "publish(1)");
        // The first row ends otherwise; only the middle one is another; only the last stitch of all is another.
        scene.with("line(1, 2, 3, 0, 1)", middle, last).open().due(1, "publish(1)");
        scene.with("line(1, 2, 2, 0, 1)", "line(1, 2, 3, 0, 1)", last).open().due(1, "publish(1)");
        scene.with("line(1, 2, 2, 0, 1)", middle, "line(1, 3, 2, 0, 1)").open().due(1, "publish(1)");
        // A row is one stitch wider, and one narrower.
        scene.with("line(1, 2, 2, 0, 1)", "line(1, 2, 4, 1, 1)", "line(1, 3, 4, 0, 1)").open().due(1, "publish(1)");
        scene.with("line(1, 2, 2, 0, 1)", "line(1, 2, 4, -1, 1)", last).open().due(1, "publish(1)");
        // Only the first stitch of all is another one.
        new Scene("The same stitches, the first one too.", "begin(0, 4, 0)", "line(0, 1, 9, 0, 1)", "publish(0)",
                "begin(1, 4, 0)",
                "line(1, 0, 9, 0, 1)").open().due(1, "publish(1)");
        // Only the last place of the last row, 39, is another one: the row is 39 wide, and 40.
        new Scene("The same stitches, the last one too.", "begin(0, 18, 0)", "line(0, 1, 0, 3, 7)", "line(0, 1, 0, 0, 2)",
                "publish(0)", "begin(1, 18, 0)", "line(1, 1, 0, 3, 7)", "line(1, 1, 0, 1, 2)").open().due(1, "publish(1)");
        // As many of each in all, but in other rows.
        scene.with(middle, "line(1, 2, 2, 0, 1)", last).open().due(1, "publish(1)");
    }

    private static void copyIfItsOriginalHasAnotherOwner() {
        Scene scene = new Scene("A pattern is a copy if its original has another owner.", "begin(3, 4, 0)",
                "line(0, 1, 1, 0, 1)",
                "begin(3, 4, 0)", "line(1, 1, 1, 0, 1)", "begin(4, 4, 0)", "line(2, 1, 1, 0, 1)", "publish(0)",
                "publish(1)", "publish(2)");
        scene.refused("rule(0)", "rule(1)").open().due(0, "rule(2)");
    }

    private static void notPublishedWhenAnew() {
        Scene scene = new Scene("A pattern worked out anew is a new one, not published.", "begin(0, 4, 10)",
                "line(0, 1, 1, 0, 2)",
                "publish(0)", "buy(0, 1)", "anew(0, 10)");
        scene.open().due(-1, "original(1)").due(0, "original(0)").refused("buy(1, 2)", "rule(1)")
                .due(3, "line(1, 1, 1, 0, 1)")
                .due(1, "publish(1)").due(20, "buy(1, 1)").due(30, "buy(0, 2)");
    }

    private static void sameOwnerAndPriceWhenAnew() {
        Scene scene = new Scene("A pattern worked out anew has the same owner and price.", "begin(4, 4, 1000)",
                "line(0, 1, 1, 0, 2)",
                "anew(0, 5)", "publish(1)");
        scene.refused("buy(1, 4)").open().due(1000, "buy(1, 0)").due(1000, "money(4)").due(-1000, "money(0)");
        new Scene("A pattern worked out anew has the same price, 0.", "begin(0, 4, 0)", "line(0, 1, 1, 0, 2)",
                "anew(0, 20)", "publish(1)")
                .open().due(0, "buy(1, 4)").due(0, "money(4)");
        // A barred copy's new pattern is not barred.
        Scene.busy("A pattern worked out anew from a barred one.").with("anew(4, 10)").open()
                .due(0, "publish(5)").accepted("buy(5, 2)");
    }

    private static void widthWhenAnew() {
        int[][] cases = {{1, 5, 1}, {1, 10, 1}, {1, 19, 1}, {1, 20, 2}, {2, 5, 1}, {2, 9, 1}, {2, 10, 2}, {3, 5, 1},
                {3, 6, 1}, {3, 7, 2},
            {4, 5, 2}, {19, 5, 9}, {20, 5, 10}, {20, 9, 18}, {20, 10, 20}, {20, 11, 20}, {20, 20, 20}, {10, 19, 19},
            {10, 20, 20},
            {11, 18, 19}, {11, 19, 20}, {11, 20, 20}, {14, 14, 19}, {14, 15, 20}, {19, 10, 19}, {19, 11, 20},
            {17, 12, 20}, {7, 15, 10}};
        for (int[] one : cases) {
            Site site = new Site("The first width is width * gauge / 10, rounded down, but 1 to 20: " + one[0] + " * " + one[1]);
            site.due(0, "begin(0, " + one[0] + ", 0)").due(1, "line(0, 1, 0, 0, 1)").due(1, "anew(0, " + one[1] + ")");
            widthIs(site, 1, 0, one[2]);
            widthIs(site, 0, 0, one[0]);
        }
    }

    private static void timesWhenAnew() {
        int[][] cases = {{1, 5, 1}, {1, 9, 1}, {1, 10, 1}, {1, 19, 1}, {1, 20, 2}, {2, 5, 1}, {2, 9, 1}, {2, 10, 2},
                {2, 14, 2}, {2, 15, 3},
            {3, 5, 1}, {3, 6, 1}, {3, 7, 2}, {19, 5, 9}, {20, 5, 10}, {20, 10, 20}, {20, 11, 22}, {20, 19, 38},
            {20, 20, 40}, {19, 11, 20}};
        for (int[] one : cases) {
            Site site = new Site("Lines are worked times * gauge / 10 times, rounded down, but at least once: " + one[0] + " * " + one[1]);
            site.due(0, "begin(0, 1, 0)").due(one[0], "line(0, 1, 0, 0, " + one[0] + ")").due(1, "anew(0, " + one[1] + ")");
            site.due(one[2], "rows(1)").due(one[0], "rows(0)").due(1, "stitchByWork(1, " + (one[2] - 1) + ", 0)");
            site.noSuch("stitch(1, " + one[2] + ", 0)", "stitchByWork(1, " + one[2] + ", 0)");
        }
        Site lines = new Site("Each line is rounded down by itself, and not their sum.");
        lines.due(0, "begin(0, 1, 0)").due(1, "line(0, 1, 0, 0, 1)").due(4, "line(0, 0, 1, 0, 3)")
                .due(5, "line(0, 1, 0, 0, 1)");
        lines.due(1, "anew(0, 5)").due(3, "rows(1)").due(2, "anew(0, 15)").due(6, "rows(2)").due(3, "anew(0, 19)")
                .due(7, "rows(3)");
        lines.due(1, "stitch(1, 0, 0)").due(2, "stitch(1, 1, 0)").due(1, "stitch(1, 2, 0)");
        lines.due(2, "stitch(3, 5, 0)").due(1, "stitch(3, 6, 0)").due(2, "stitchByWork(3, 5, 0)")
                .due(1, "stitchByWork(3, 6, 0)");
    }

    private static void atMost40RowsWhenAnew() {
        String sentence = "A pattern worked out anew has at most 40 rows in all.";
        Scene twenty = new Scene(sentence, "begin(0, 4, 0)", "line(0, 1, 1, 0, 20)");
        twenty.open().due(1, "anew(0, 20)").due(40, "rows(1)").due(2, "anew(0, 19)").due(38, "rows(2)");
        twenty.with("line(0, 1, 1, 0, 1)").refused("anew(0, 20)").open().due(1, "anew(0, 19)").due(39, "rows(1)");
        // 13 and 14 times at gauge 15: 19 and 21 are 40; 13 and 15 times: 19 and 22 are 41.
        twenty = new Scene(sentence, "begin(0, 4, 0)", "line(0, 1, 1, 0, 13)");
        twenty.with("line(0, 1, 1, 0, 14)").open().due(1, "anew(0, 15)").due(40, "rows(1)").refused("line(1, 1, 1, 0, 1)");
        twenty.with("line(0, 1, 1, 0, 15)").refused("anew(0, 15)").open().due(1, "anew(0, 14)").due(39, "rows(1)");
        Scene forty = new Scene(sentence, "begin(0, 4, 0)", "line(0, 1, 1, 0, 20)", "line(0, 1, 1, 0, 20)");
        forty.refused("anew(0, 11)", "anew(0, 20)").open().due(1, "anew(0, 10)").due(40, "rows(1)").due(2, "anew(0, 9)")
                .due(36, "rows(2)");
    }
}
