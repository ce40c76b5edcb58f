/**
 * The bounds of each argument, as promises 2 to 20 list them: both bounds and the numbers beside them inside are
 * answered, one step beyond either and the ends of int are not, and leave all as it was.
 */
public final class ArgumentsTest {
    private static final String[] WAYS = {"stitch", "stitchByWork"};

    public static void main(String[] args) {
        promise2();
        promise3();
        promise3NoStitches();
        promise4();
        promises5To7();
        promises8And9();
        promise8And9Places();
        promise10();
        promise11();
        promise12();
        promise13();
        promise14();
        promise15();
        promise16();
        promise17();
        promise18();
        promise19();
        promise20();
        Site.end();
    }

    private static void promise2() {
        Scene scene = Scene.busy("promise 2, arguments");
        scene.range(Scene.INDEX, "begin(#, 4, 100)", 0, 4, owner -> 5);
        scene.range(Scene.ARGUMENT, "begin(0, #, 100)", 1, 20, width -> 5);
        scene.range(Scene.ARGUMENT, "begin(0, 4, #)", 0, 1000, price -> 5);
    }

    private static void promise3() {
        Scene scene = Scene.busy("promise 3, arguments");
        scene.numbered("line(#, 1, 1, 1, 1)", 5);
        scene.range(Scene.ARGUMENT, "line(3, #, 1, 1, 1)", 0, 9, knits -> 3);
        scene.range(Scene.ARGUMENT, "line(3, 1, #, 1, 1)", 0, 9, purls -> 3);
        scene.range(Scene.ARGUMENT, "line(3, 1, 1, #, 1)", -3, 3, shaping -> 3);
        scene.range(Scene.ARGUMENT, "line(3, 1, 1, 1, #)", 1, 20, times -> 2 + times);
    }

    private static void promise3NoStitches() {
        Scene scene = Scene.busy("promise 3, knits and purls are not both 0");
        scene.outOfRange("line(3, 0, 0, 0, 1)", "line(3, 0, 0, 3, 20)", "line(2, 0, 0, 0, 1)");
        scene.open().due(3, "line(3, 1, 0, 0, 1)").due(4, "line(3, 0, 1, 0, 1)").outOfRange("line(3, 0, 0, 0, 1)")
                .due(5, "line(3, 1, 1, 0, 1)");
        // One out of range does not make up for the other.
        scene.outOfRange("line(3, 1, -1, 0, 1)", "line(3, -1, 1, 0, 1)", "line(3, -1, 2, 0, 1)", "line(3, 10, -1, 0, 1)",
                "line(3, -1, -1, 0, 1)", "line(3, 0, 10, 0, 1)", "line(3, 10, 0, 0, 1)");
    }

    private static void promise4() {
        Scene scene = Scene.busy("promise 4, arguments");
        scene.numbered("anew(#, 10)", 5);
        scene.range(Scene.ARGUMENT, "anew(0, #)", 5, 20, gauge -> 5);
    }

    private static void promises5To7() {
        Scene scene = Scene.busy("promises 5 to 7, arguments");
        scene.numbered("publish(#)", 5).numbered("original(#)", 5).numbered("rows(#)", 5);
        scene.open().due(3, "publish(3)").due(0, "original(0)").due(0, "original(4)").due(-1, "original(2)")
                .due(3, "rows(0)").due(3, "rows(4)");
    }

    private static void promises8And9() {
        Scene scene = Scene.busy("promises 8 and 9, patterns and rows");
        Scene rows = new Scene("promises 8 and 9, rows", "begin(0, 4, 0)", "line(0, 1, 1, 0, 20)", "line(0, 1, 1, 0, 20)",
                "begin(0, 4, 0)", "line(1, 0, 1, 0, 1)", "begin(0, 4, 0)");
        for (String way : WAYS) {
            // Pattern 2 has no lines, and so no row 0.
            scene.noSuch(way + "(-1, 0, 0)", way + "(2, 0, 0)", way + "(5, 0, 0)", way + "(2147483647, 0, 0)",
                    way + "(-2147483648, 0, 0)");
            scene.open().due(1, way + "(0, 0, 0)").due(1, way + "(1, 0, 0)").due(1, way + "(3, 0, 0)")
                    .due(1, way + "(4, 0, 0)");
            rows.range(Scene.INDEX, way + "(0, #, 0)", 0, 39, row -> 1);
            rows.noSuch(way + "(1, -1, 0)", way + "(1, 1, 0)", way + "(2, 0, 0)", way + "(2, -1, 0)").open()
                    .due(2, way + "(1, 0, 0)");
        }
    }

    private static void promise8And9Places() {
        Scene scene = new Scene("promises 8 and 9, places", "begin(0, 20, 0)", "line(0, 0, 1, 3, 7)", "line(0, 1, 0, 0, 1)",
                "begin(0, 1, 0)", "line(1, 0, 1, 0, 1)");
        for (String way : WAYS) {
            // Row 0 is 20 wide, row 6 is 38, row 7 is 40; the other pattern's row is 1 wide.
            scene.noSuch(way + "(0, 0, -1)", way + "(0, 7, -1)", way + "(1, 0, -1)", way + "(0, 7, -2147483648)");
            scene.open().due(2, way + "(0, 0, 0)").due(2, way + "(0, 0, 19)").due(0, way + "(0, 0, 20)")
                    .due(0, way + "(0, 0, 21)")
                    .due(2, way + "(0, 6, 37)").due(0, way + "(0, 6, 38)").due(0, way + "(0, 6, 39)")
                    .due(0, way + "(0, 6, 40)");
            scene.open().due(1, way + "(0, 7, 39)").due(0, way + "(0, 7, 40)").due(0, way + "(0, 7, 41)")
                    .due(0, way + "(0, 7, 2147483647)");
            scene.open().due(2, way + "(1, 0, 0)").due(0, way + "(1, 0, 1)").due(0, way + "(1, 0, 2147483647)")
                    .due(0, way + "(0, 0, 2147483647)");
            // A place or row that is so great that a sum or product with it wraps around.
            scene.open().due(0, way + "(0, 7, 2147483608)").due(0, way + "(0, 1, 2147483608)");
            scene.noSuch(way + "(0, 107374183, 0)", way + "(0, 53687091, 0)", way + "(0, 2147483647, 0)",
                    way + "(0, 2147483647, 2147483647)");
        }
    }

    private static void promise10() {
        Scene scene = Scene.busy("promise 10, arguments");
        scene.numbered("need(#, 10)", 5);
        // Rows KKPK, KKPKK and KPPKPP: 9, 11 and 16 a gauge.
        scene.range(Scene.ARGUMENT, "need(0, #)", 5, 20, gauge -> 36 * gauge);
        scene.open().due(0, "need(2, 5)").due(0, "need(2, 20)");
        // As many rows as can be: 20 23 26 29 32 35 38 purls, and 33 rows of 40.
        new Scene("promise 10, 40 rows", "begin(0, 20, 0)", "line(0, 0, 1, 3, 20)", "line(0, 0, 9, 3, 20)").open()
                .due(3 * 5 * (203 + 33 * 40), "need(0, 5)").due(3 * 20 * (203 + 33 * 40), "need(0, 20)");
    }

    private static void promise11() {
        Scene scene = Scene.busy("promise 11, arguments");
        scene.numbered("buy(#, 4)", 5);
        new Scene("promise 11, persons", "begin(2, 4, 10)", "line(0, 1, 1, 0, 1)", "publish(0)")
                .range(Scene.INDEX, "buy(0, #)", 0, 4, person -> 10);
        scene.noSuch("buy(0, -1)", "buy(0, 5)", "buy(0, 2147483647)", "buy(0, -2147483648)").open().due(40, "buy(1, 0)")
                .due(120, "buy(0, 4)");
    }

    private static void promise12() {
        Scene scene = Scene.busy("promise 12, arguments");
        scene.numbered("rule(#)", 5).open().due(60, "rule(1)");
    }

    private static void promise13() {
        Scene.busy("promise 13, arguments").noSuch("money(-1)", "money(5)", "money(2147483647)", "money(-2147483648)").open()
                .due(50, "money(0)").due(10, "money(1)").due(-30, "money(2)").due(-30, "money(3)").due(0, "money(4)");
    }

    private static void promise14() {
        Scene scene = Scene.busy("promise 14, arguments");
        scene.range(Scene.INDEX, "lot(#, 10, 100)", 0, 4, person -> 4);
        scene.range(Scene.ARGUMENT, "lot(0, #, 100)", 5, 20, gauge -> 4);
        scene.range(Scene.ARGUMENT, "lot(0, 10, #)", 1, 100000, yarn -> 4);
    }

    private static void promise15() {
        Scene scene = Scene.busy("promise 15, arguments");
        scene.numbered("swap(#, 1)", 4).numbered("swap(1, #)", 4);
        scene.open().due(1, "swap(0, 1)").due(1, "swap(3, 0)").due(1, "swap(2, 3)");
    }

    private static void promise16() {
        Scene scene = Scene.busy("promise 16, arguments");
        // Rows of 9 and 11 at gauge 20 are knitted of lot 2, one of 9 at gauge 10 of lot 0.
        scene.numbered("left(#)", 4).open().due(910, "left(0)").due(2000, "left(1)").due(2600, "left(2)")
                .due(400, "left(3)");
    }

    private static void promise17() {
        Scene scene = Scene.busy("promise 17, arguments").with("lot(4, 5, 100)");
        scene.noSuch("project(-1, 0, 0)", "project(5, 0, 0)", "project(2147483647, 0, 0)", "project(-2147483648, 0, 0)");
        scene.numbered("project(0, #, 0)", 5).numbered("project(0, 0, #)", 5);
        scene.open().due(3, "project(0, 0, 0)").due(4, "project(4, 4, 4)").due(5, "project(0, 0, 3)");
    }

    private static void promise18() {
        Scene scene = Scene.busy("promise 18, arguments");
        scene.numbered("take(#, 0)", 3).numbered("take(0, #)", 4);
        scene.open().due(0, "take(0, 3)").due(3, "take(0, 0)").due(2, "take(1, 2)").due(1, "take(2, 1)");
    }

    private static void promise19() {
        Scene scene = Scene.busy("promise 19, arguments");
        scene.numbered("knit(#, 1)", 3);
        // Two of three rows are left.
        scene.range(Scene.ARGUMENT, "knit(0, #)", 1, 40, rows -> Math.min(rows, 2));
        new Scene("promise 19, 40 rows", "begin(0, 1, 0)", "line(0, 1, 0, 0, 20)", "line(0, 1, 0, 0, 20)", "publish(0)",
                "lot(0, 5, 100000)",
                "project(0, 0, 0)").range(Scene.ARGUMENT, "knit(0, #)", 1, 40, rows -> rows);
    }

    private static void promise20() {
        Scene.busy("promise 20, arguments").numbered("progress(#)", 3).open().due(1, "progress(0)")
                .due(2, "progress(1)").due(0, "progress(2)");
    }
}
