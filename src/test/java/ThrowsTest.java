/**
 * The throws clauses of promises 2 to 20: each exception is thrown, the one that the clause names first goes first if
 * several apply, and the call changes nothing (Scene looks at that for every call here).
 */
public final class ThrowsTest {
    private static final String[] WAYS = {"stitch", "stitchByWork"};

    public static void main(String[] args) {
        beginThrows();
        beginThrowsTheFirst();
        lineThrows();
        lineThrowsTheFirst();
        anewThrows();
        anewThrowsTheFirst();
        publishThrows();
        originalAndRowsThrow();
        stitchThrows();
        needThrows();
        buyThrows();
        buyThrowsTheFirst();
        ruleThrows();
        moneyThrows();
        lotThrows();
        lotThrowsTheFirst();
        swapThrows();
        leftThrows();
        projectThrows();
        projectThrowsTheFirst();
        takeThrows();
        knitThrows();
        progressThrows();
        afterARefusal();
        Site.end();
    }

    private static Scene fullOfPatterns(String sentence) {
        return Scene.busy(sentence).withEach("begin(0, #, 10)", 5, 15);
    }

    private static Scene fullOfLots(String sentence) {
        return Scene.busy(sentence).withEach("lot(3, 5, 1#)", 4, 19);
    }

    private static Scene fullOfProjects(String sentence) {
        return Scene.busy(sentence).with("project(0, 0, 3)").withEach("project(0, 0, 0)", 4, 11);
    }

    private static void beginThrows() {
        Scene.busy("begin throws").noSuch("begin(-1, 4, 10)", "begin(5, 4, 10)")
                .outOfRange("begin(0, 0, 10)", "begin(0, 21, 10)", "begin(0, 4, -1)", "begin(0, 4, 1001)",
                "begin(0, 0, -1)", "begin(0, 21, 1001)");
        fullOfPatterns("begin throws if there are 16").refused("begin(0, 4, 10)", "begin(4, 20, 1000)", "begin(0, 1, 0)");
    }

    private static void beginThrowsTheFirst() {
        // No such owner goes before width and price, and both before the 16 patterns.
        Scene.busy("begin throws the first")
                .noSuch("begin(-1, 0, 10)", "begin(5, 21, 10)", "begin(-1, 4, -1)", "begin(5, 4, 1001)");
        fullOfPatterns("begin throws the first of three")
                .noSuch("begin(-1, 4, 10)", "begin(5, 4, 10)", "begin(5, 0, 10)", "begin(-1, 4, 1001)")
                .outOfRange("begin(0, 0, 10)", "begin(0, 21, 10)", "begin(0, 4, -1)", "begin(0, 4, 1001)");
    }

    private static void lineThrows() {
        Scene.busy("line throws").noSuch("line(-1, 1, 1, 0, 1)", "line(5, 1, 1, 0, 1)")
                .outOfRange("line(3, -1, 1, 0, 1)", "line(3, 10, 1, 0, 1)", "line(3, 1, -1, 0, 1)", "line(3, 1, 10, 0, 1)")
                .outOfRange("line(3, 1, 1, -4, 1)", "line(3, 1, 1, 4, 1)", "line(3, 1, 1, 0, 0)", "line(3, 1, 1, 0, 21)",
                "line(3, 0, 0, 0, 1)")
                // Published: an original, a copy, and a barred one.
                .refused("line(0, 1, 1, 0, 1)", "line(1, 1, 1, 0, 1)", "line(4, 1, 1, 0, 1)");
        sixLines().refused("line(5, 1, 1, 0, 1)", "line(5, 1, 1, 0, 20)");
        manyRows().refused("line(5, 1, 1, 0, 2)", "line(5, 1, 1, 0, 20)").open().due(40, "line(5, 1, 1, 0, 1)");
    }

    /** Pattern 5 has six lines. */
    private static Scene sixLines() {
        return Scene.busy("line throws if it has 6 lines").with("begin(0, 4, 10)").withEach("line(5, #, 1, 0, 1)", 1, 6);
    }

    /** Pattern 5 has 39 rows. */
    private static Scene manyRows() {
        return Scene.busy("line throws if it would have more than 40 rows")
                .with("begin(0, 4, 10)", "line(5, 1, 1, 0, 20)", "line(5, 1, 1, 0, 19)");
    }

    private static void lineThrowsTheFirst() {
        Scene.busy("line throws the first")
                .noSuch("line(-1, -1, 1, 0, 1)", "line(5, 1, 10, 0, 1)", "line(-1, 1, 1, 4, 1)", "line(5, 1, 1, 0, 0)",
                "line(5, 0, 0, 0, 1)")
                // All of them out of range, of a published pattern.
                .outOfRange("line(0, -1, 1, 0, 1)", "line(0, 1, 10, 0, 1)", "line(0, 1, 1, -4, 1)",
                "line(0, 1, 1, 0, 21)", "line(0, 0, 0, 0, 1)");
        sixLines().outOfRange("line(5, 10, 1, 0, 1)", "line(5, 1, -1, 0, 1)", "line(5, 1, 1, 4, 1)",
                "line(5, 1, 1, 0, 0)", "line(5, 0, 0, 0, 1)");
        manyRows().outOfRange("line(5, 1, 1, 0, 21)", "line(5, 10, 1, 0, 2)", "line(5, 1, -1, 0, 2)",
                "line(5, 1, 1, -4, 2)", "line(5, 0, 0, 0, 2)");
    }

    /** Pattern 5 has 21 rows in one line of 20 and one more. */
    private static Scene manyRowsAnew(String sentence) {
        return Scene.busy(sentence).with("begin(0, 4, 10)", "line(5, 1, 1, 0, 20)", "line(5, 1, 1, 0, 1)");
    }

    private static void anewThrows() {
        Scene.busy("anew throws").noSuch("anew(-1, 10)", "anew(5, 10)")
                .outOfRange("anew(0, 4)", "anew(0, 21)", "anew(3, 4)", "anew(3, 21)")
                .refused("anew(2, 5)", "anew(2, 10)", "anew(2, 20)");
        manyRowsAnew("anew throws if the new one would have more than 40 rows").refused("anew(5, 20)").open()
                .due(6, "anew(5, 19)");
        fullOfPatterns("anew throws if there are 16").refused("anew(0, 10)", "anew(3, 5)", "anew(4, 20)");
    }

    private static void anewThrowsTheFirst() {
        Scene.busy("anew throws the first").noSuch("anew(-1, 4)", "anew(5, 21)").outOfRange("anew(2, 4)", "anew(2, 21)");
        manyRowsAnew("anew throws the first, too many rows").outOfRange("anew(5, 21)", "anew(5, 2147483647)");
        fullOfPatterns("anew throws the first of three")
                .noSuch("anew(-1, 10)", "anew(16, 10)", "anew(16, 4)", "anew(-1, 21)")
                .outOfRange("anew(0, 4)", "anew(0, 21)", "anew(2, 4)").refused("anew(2, 10)", "anew(15, 10)");
    }

    private static void publishThrows() {
        Scene.busy("publish throws").noSuch("publish(-1)", "publish(5)")
                // Published: an original, a copy, and a barred one; then one without lines.
                .refused("publish(0)", "publish(1)", "publish(4)", "publish(2)").open()
                .refused("publish(2)").due(1, "line(2, 1, 1, 0, 1)").due(2, "publish(2)").refused("publish(2)");
    }

    private static void originalAndRowsThrow() {
        Scene.busy("original and rows throw").noSuch("original(-1)", "original(5)", "rows(-1)", "rows(5)");
        new Scene("original and rows throw on a new object").noSuch("original(0)", "original(-1)", "rows(0)", "rows(-1)");
    }

    private static void stitchThrows() {
        for (String way : WAYS) {
            Scene.busy(way + " throws").noSuch(way + "(-1, 0, 0)", way + "(5, 0, 0)")
                    .noSuch(way + "(0, -1, 0)", way + "(0, 3, 0)", way + "(3, 2, 0)", way + "(2, 0, 0)")
                    .noSuch(way + "(0, 0, -1)", way + "(0, 2, -1)", way + "(5, 3, -1)", way + "(-1, -1, -1)",
                    way + "(0, 3, 99)")
                    .open().due(1, way + "(0, 2, 0)").due(0, way + "(0, 2, 6)").due(2, way + "(0, 2, 5)");
        }
    }

    private static void needThrows() {
        Scene.busy("need throws").noSuch("need(-1, 10)", "need(5, 10)")
                .outOfRange("need(0, 4)", "need(0, 21)", "need(2, 4)", "need(2, 21)")
                // No such pattern goes first.
                .noSuch("need(-1, 4)", "need(5, 21)");
    }

    private static void buyThrows() {
        Scene.busy("buy throws").noSuch("buy(-1, 4)", "buy(5, 4)", "buy(0, -1)", "buy(0, 5)", "buy(5, 5)", "buy(-1, -1)")
                // Not published, without lines and with; barred; the person's; bought before; barred and bought before.
                .refused("buy(2, 0)", "buy(3, 0)").refused("buy(4, 0)", "buy(4, 2)").refused("buy(0, 0)", "buy(1, 1)")
                .refused("buy(1, 2)", "buy(1, 3)").refused("buy(4, 1)", "buy(4, 4)", "buy(3, 3)");
    }

    private static void buyThrowsTheFirst() {
        // No such person goes before not published and barred; a sale of no such pattern to no such person is one too.
        Scene.busy("buy throws the first")
                .noSuch("buy(2, 5)", "buy(3, -1)", "buy(4, 5)", "buy(4, -1)", "buy(-1, 5)", "buy(5, -1)");
    }

    private static void ruleThrows() {
        Scene.busy("rule throws").noSuch("rule(-1)", "rule(5)")
                // The original itself, not published, and barred.
                .refused("rule(0)", "rule(2)", "rule(3)", "rule(4)")
                .with("begin(0, 4, 10)", "line(5, 2, 1, 1, 2)", "line(5, 1, 2, 0, 1)", "publish(5)", "buy(5, 4)")
                // Its original has the same owner.
                .refused("rule(5)").with("rule(1)").refused("rule(1)", "rule(5)");
        // Of a chart that is not published yet it is no copy, and later neither.
        new Scene("rule throws for the first of a chart", "begin(0, 4, 0)", "begin(1, 4, 0)", "line(0, 1, 1, 0, 1)",
                "line(1, 1, 1, 0, 1)",
                "publish(1)").refused("rule(1)", "rule(0)").with("publish(0)").refused("rule(1)").open().due(0, "rule(0)");
    }

    private static void moneyThrows() {
        Scene.busy("money throws").noSuch("money(-1)", "money(5)");
        new Scene("money throws on a new object").noSuch("money(-1)", "money(5)");
    }

    private static void lotThrows() {
        Scene.busy("lot throws").noSuch("lot(-1, 5, 1)", "lot(5, 5, 1)")
                .outOfRange("lot(0, 4, 1)", "lot(0, 21, 1)", "lot(0, 5, 0)", "lot(0, 5, 100001)", "lot(0, 4, 0)",
                "lot(0, 21, 100001)");
        fullOfLots("lot throws if there are 20").refused("lot(0, 5, 1)", "lot(4, 20, 100000)");
    }

    private static void lotThrowsTheFirst() {
        Scene.busy("lot throws the first").noSuch("lot(-1, 4, 1)", "lot(5, 21, 1)", "lot(-1, 5, 0)", "lot(5, 5, 100001)");
        fullOfLots("lot throws the first of three").noSuch("lot(-1, 5, 1)", "lot(5, 5, 1)", "lot(5, 4, 1)", "lot(-1, 5, 0)")
                .outOfRange("lot(0, 4, 1)", "lot(0, 21, 1)", "lot(0, 5, 0)", "lot(0, 5, 100001)");
    }

    private static void swapThrows() {
        Scene.busy("swap throws")
                .noSuch("swap(-1, 0)", "swap(4, 0)", "swap(0, -1)", "swap(0, 4)", "swap(4, 4)", "swap(-1, -1)",
                "swap(-1, 4)")
                // One person's: two lots, the other way round, and a lot and itself.
                .refused("swap(0, 3)", "swap(3, 0)", "swap(0, 0)", "swap(1, 1)", "swap(3, 3)")
                // Then 0 and 3 are not one person's any more, but 1 and 3 are.
                .with("swap(0, 1)").refused("swap(1, 3)", "swap(3, 1)", "swap(0, 0)").open().due(1, "swap(3, 0)");
    }

    private static void leftThrows() {
        Scene.busy("left throws").noSuch("left(-1)", "left(4)");
        new Scene("left throws on a new object").noSuch("left(0)", "left(-1)");
        fullOfLots("left throws").noSuch("left(20)");
    }

    private static void projectThrows() {
        Scene scene = Scene.busy("project throws").with("lot(3, 5, 100)", "lot(4, 5, 100)");
        scene.noSuch("project(-1, 0, 0)", "project(5, 0, 0)", "project(0, -1, 0)", "project(0, 5, 0)",
                "project(0, 0, -1)", "project(0, 0, 6)");
        // Not published, though the person's; neither owned nor bought; bought, or owned, but with another one's lot.
        scene.refused("project(2, 2, 2)", "project(3, 3, 4)")
                .refused("project(1, 0, 1)", "project(0, 1, 0)", "project(4, 1, 5)");
        scene.refused("project(3, 1, 2)", "project(2, 1, 4)", "project(0, 0, 1)", "project(1, 4, 0)");
        scene.open().due(3, "project(3, 1, 4)").due(4, "project(4, 4, 5)").due(5, "project(1, 4, 1)");
        // A lot that was the person's, and one that is it only now.
        scene.with("swap(0, 1)").refused("project(0, 0, 0)").open().due(3, "project(0, 0, 1)");
        fullOfProjects("project throws if there are 12").refused("project(0, 0, 0)", "project(1, 4, 1)");
    }

    private static void projectThrowsTheFirst() {
        Scene.busy("project throws the first")
                // No such person, no such lot: of a pattern that is not published, or not the person's.
                .noSuch("project(5, 2, 2)", "project(-1, 3, 0)", "project(2, 2, 4)", "project(1, 0, 4)", "project(0, 1, -1)")
                // No such pattern: with another one's lot.
                .noSuch("project(0, 5, 1)", "project(0, -1, 1)").noSuch("project(5, 5, 4)", "project(-1, -1, -1)");
        fullOfProjects("project throws the first, full")
                .noSuch("project(5, 0, 0)", "project(0, 5, 0)", "project(0, 0, 4)", "project(-1, 0, 0)",
                "project(0, -1, 0)", "project(0, 0, -1)");
    }

    private static void takeThrows() {
        Scene.busy("take throws").noSuch("take(-1, 0)", "take(3, 0)", "take(0, -1)", "take(0, 4)", "take(3, 4)")
                // Another one's lot; no such project or lot goes first.
                .refused("take(0, 1)", "take(0, 2)", "take(1, 0)", "take(2, 3)").noSuch("take(3, 1)", "take(-1, 1)")
                // Its own lot, that was swapped away.
                .with("swap(0, 1)").refused("take(0, 0)").open().due(0, "take(0, 1)").due(1, "take(2, 0)");
    }

    private static void knitThrows() {
        Scene.busy("knit throws").noSuch("knit(-1, 1)", "knit(3, 1)")
                .outOfRange("knit(0, 0)", "knit(0, 41)", "knit(2, -1)", "knit(2, 2147483647)")
                // No such project goes first.
                .noSuch("knit(-1, 0)", "knit(3, 41)")
                // Where nothing can be knitted any more, the number of rows is looked at all the same.
                .with("knit(0, 40)").outOfRange("knit(0, 0)", "knit(0, 41)").open().due(0, "knit(0, 1)")
                .due(0, "knit(0, 40)");
        Scene.busy("knit throws, the lot swapped away").with("swap(0, 1)").outOfRange("knit(0, 0)", "knit(0, 41)")
                .open().due(0, "knit(0, 40)");
    }

    private static void progressThrows() {
        Scene.busy("progress throws").noSuch("progress(-1)", "progress(3)");
        new Scene("progress throws on a new object").noSuch("progress(0)", "progress(-1)");
        fullOfProjects("progress throws").noSuch("progress(12)");
    }

    /** What was refused is done all the same once nothing is against it. */
    private static void afterARefusal() {
        Scene.busy("after a refusal").open().refused("publish(2)", "buy(3, 0)", "anew(2, 10)", "rule(3)")
                .due(2, "line(2, 1, 1, 0, 2)")
                .due(5, "anew(2, 10)").due(2, "publish(2)").due(3, "publish(3)").due(10, "buy(3, 0)").due(-10, "buy(2, 3)");
    }
}
