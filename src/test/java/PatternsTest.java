/** Promises 2 to 7 and 10: begin, line, anew, publish, original, rows, need. */
public final class PatternsTest {
    public static void main(String[] args) {
        begin();
        beginOrder();
        line();
        lineLimits();
        lineOrder();
        anew();
        anewBounds();
        anewOfSixLines();
        anewOfAnew();
        anewOrder();
        publish();
        publishOrder();
        originalByChart();
        originalOfOtherWidths();
        rows();
        need();
        Site.end();
    }

    private static void begin() {
        Site site = new Site("promise 2");
        site.due(0, "begin(0, 1, 0)").due(1, "begin(4, 20, 1000)").due(0, "rows(0)").due(-1, "original(1)");
        site.noSuch("begin(-1, 4, 10)", "begin(5, 4, 10)", "begin(2147483647, 4, 10)", "begin(-2147483648, 4, 10)");
        site.outOfRange("begin(0, 0, 10)", "begin(0, 21, 10)", "begin(0, -2147483648, 10)", "begin(0, 2147483647, 10)");
        site.outOfRange("begin(0, 4, -1)", "begin(0, 4, 1001)", "begin(0, 4, -2147483648)", "begin(0, 4, 2147483647)");
        for (int number = 2; number < 16; number++) {
            site.due(number, "begin(1, 4, 10)");
        }
        site.refused("begin(1, 4, 10)", "begin(0, 1, 0)");
        site.due(0, "rows(15)").noSuch("rows(16)");
    }

    private static void beginOrder() {
        Site site = new Site("promise 2, order");
        site.noSuch("begin(5, 0, 10)", "begin(-1, 4, 1001)").due(0, "begin(0, 4, 10)");
        for (int number = 1; number < 16; number++) {
            site.due(number, "begin(0, 4, 10)");
        }
        site.noSuch("begin(5, 4, 10)").outOfRange("begin(0, 21, 10)", "begin(0, 4, -1)").refused("begin(0, 4, 10)");
    }

    private static void line() {
        Site site = new Site("promise 3");
        site.due(0, "begin(0, 5, 10)").due(1, "begin(0, 5, 10)");
        site.due(2, "line(0, 2, 1, 3, 2)").due(3, "line(0, 0, 9, -3, 1)").due(5, "line(0, 9, 0, 0, 2)");
        site.due(0, "rows(1)").due(20, "line(1, 1, 1, 0, 20)").due(5, "rows(0)");
        site.noSuch("line(-1, 1, 1, 0, 1)", "line(2, 1, 1, 0, 1)", "line(2147483647, 1, 1, 0, 1)");
        site.outOfRange("line(0, -1, 1, 0, 1)", "line(0, 10, 1, 0, 1)", "line(0, 1, -1, 0, 1)", "line(0, 1, 10, 0, 1)");
        site.outOfRange("line(0, 1, 1, -4, 1)", "line(0, 1, 1, 4, 1)", "line(0, 1, 1, 0, 0)", "line(0, 1, 1, 0, 21)");
        site.outOfRange("line(0, 0, 0, 0, 1)", "line(0, -2147483648, 2147483647, 0, 1)", "line(0, 1, -1, 0, 1)");
        site.outOfRange("line(0, 1, 1, 2147483647, 1)", "line(0, 1, 1, 0, 2147483647)", "line(0, 1, 1, 0, -1)");
        site.due(5, "rows(0)").due(2, "stitch(0, 2, 10)").due(0, "stitch(0, 2, 11)").due(1, "stitch(0, 3, 7)");
        site.due(6, "line(0, 1, 1, 0, 1)").due(1, "stitch(0, 5, 0)").due(2, "stitch(0, 5, 1)");
    }

    private static void lineLimits() {
        Site site = new Site("promise 3, limits");
        site.due(0, "begin(0, 5, 10)");
        for (int count = 1; count <= 6; count++) {
            site.due(count, "line(0, 1, 1, 0, 1)");
        }
        site.refused("line(0, 1, 1, 0, 1)").due(6, "rows(0)");
        site.due(1, "begin(0, 5, 10)").due(20, "line(1, 1, 1, 0, 20)").due(39, "line(1, 1, 1, 0, 19)");
        site.refused("line(1, 1, 1, 0, 2)", "line(1, 1, 1, 0, 20)").due(39, "rows(1)").due(40, "line(1, 1, 1, 0, 1)");
        site.refused("line(1, 1, 1, 0, 1)").due(40, "rows(1)");
        site.due(2, "begin(0, 5, 10)").due(1, "line(2, 1, 1, 0, 1)").due(2, "publish(2)");
        site.refused("line(2, 1, 1, 0, 1)").due(1, "rows(2)").due(2, "original(2)");
    }

    private static void lineOrder() {
        Site site = new Site("promise 3, order");
        site.due(0, "begin(0, 5, 10)").due(1, "line(0, 1, 1, 0, 1)").due(0, "publish(0)");
        site.noSuch("line(1, 0, 0, 0, 1)", "line(-1, 1, 1, 9, 99)");
        site.outOfRange("line(0, 0, 0, 0, 1)", "line(0, 1, 1, 0, 21)", "line(0, 1, 1, 4, 1)", "line(0, 10, 1, 0, 1)");
        site.refused("line(0, 1, 1, 0, 1)");
    }

    private static void anew() {
        Site site = new Site("promise 4");
        site.due(0, "begin(3, 7, 123)").due(3, "line(0, 2, 1, 1, 3)").due(4, "line(0, 0, 3, -2, 1)");
        // Widths 7 8 9 10 become 10 11 12 13 14: 7 * 15 / 10 is 10, three rows become four, one stays one.
        site.due(1, "anew(0, 15)").due(5, "rows(1)").due(4, "rows(0)").due(-1, "original(1)");
        site.due(1, "stitch(1, 0, 9)").due(0, "stitch(1, 0, 10)").due(2, "stitch(1, 4, 13)").due(0, "stitch(1, 4, 14)");
        site.due(2, "stitch(1, 3, 2)").due(1, "stitch(1, 3, 12)").due(2, "stitch(1, 4, 0)");
        site.due(6, "line(1, 1, 0, 0, 1)").due(1, "stitch(1, 5, 11)").due(0, "stitch(1, 5, 12)").due(4, "rows(0)");
        // The same gauge makes the same pattern; owner and price are kept.
        site.due(2, "anew(0, 10)").due(0, "publish(0)").due(0, "publish(2)").due(1, "publish(1)");
        site.due(123, "buy(2, 0)").due(123, "money(3)").due(-123, "money(0)").due(246, "buy(1, 0)");
        site.refused("buy(2, 3)", "rule(2)");
        site.due(3, "anew(0, 10)").due(5, "line(3, 1, 1, 0, 1)").due(4, "rows(0)");
        site.noSuch("anew(4, 10)", "anew(-1, 10)").outOfRange("anew(0, 4)", "anew(0, 21)", "anew(0, -2147483648)");
        site.noSuch("rows(4)").due(4, "begin(0, 1, 0)");
    }

    private static void anewBounds() {
        Site site = new Site("promise 4, bounds");
        site.due(0, "begin(0, 1, 0)").due(1, "line(0, 1, 0, 0, 1)").due(4, "line(0, 1, 0, 1, 3)");
        // 1 * 5 / 10 is 0, so the width is 1; once stays once, three times become once.
        site.due(1, "anew(0, 5)").due(2, "rows(1)").due(1, "stitch(1, 0, 0)").due(0, "stitch(1, 0, 1)");
        site.due(2, "anew(0, 9)").due(3, "rows(2)").due(3, "anew(0, 19)").due(6, "rows(3)");
        site.due(4, "begin(0, 15, 0)").due(20, "line(4, 1, 0, 0, 20)");
        site.due(5, "anew(4, 20)").due(40, "rows(5)").due(1, "stitch(5, 39, 19)").due(0, "stitch(5, 39, 20)");
        site.due(6, "anew(4, 13)").due(26, "rows(6)").due(1, "stitch(6, 0, 18)").due(0, "stitch(6, 0, 19)");
        site.due(7, "anew(4, 5)").due(10, "rows(7)").due(1, "stitch(7, 0, 6)").due(0, "stitch(7, 0, 7)");
        site.due(21, "line(4, 1, 0, 0, 1)").refused("anew(4, 20)").due(8, "anew(4, 19)").due(39, "rows(8)");
        // 13 times become 19 and 15 times 22, one row too many; at gauge 14 they become 18 and 21.
        site.due(9, "begin(0, 15, 0)").due(13, "line(9, 1, 0, 0, 13)").due(28, "line(9, 0, 1, 0, 15)");
        site.refused("anew(9, 15)").due(10, "anew(9, 14)").due(39, "rows(10)").due(1, "stitch(10, 17, 0)").due(2, "stitch(10, 18, 0)");
    }

    private static void anewOfSixLines() {
        Site site = new Site("promise 4, six lines");
        site.due(0, "begin(2, 3, 0)");
        for (int count = 1; count <= 6; count++) {
            site.due(count, "line(0, " + count + ", 1, 1, 1)");
        }
        site.due(1, "anew(0, 20)").due(12, "rows(1)").refused("line(1, 1, 1, 0, 1)");
        // The last row comes of the sixth line: width 6 + 11.
        site.due(2, "stitch(1, 11, 6)").due(1, "stitch(1, 11, 7)").due(1, "stitch(1, 11, 16)").due(0, "stitch(1, 11, 17)");
    }

    private static void anewOfAnew() {
        Site site = new Site("promise 4, of one worked out anew");
        site.due(0, "begin(0, 3, 0)").due(20, "line(0, 1, 2, 0, 20)").due(1, "anew(0, 20)").due(40, "rows(1)");
        // The 40 times of the new line may be worked out anew too, though a line is given 20 at most.
        site.due(2, "anew(1, 5)").due(20, "rows(2)").due(3, "anew(1, 10)").due(40, "rows(3)");
        site.refused("anew(1, 11)", "line(1, 1, 1, 0, 1)");
        site.due(0, "publish(0)").due(0, "publish(2)").due(1, "publish(1)").due(1, "publish(3)");
    }

    private static void anewOrder() {
        Site site = new Site("promise 4, order");
        site.due(0, "begin(0, 3, 0)").noSuch("anew(1, 4)", "anew(-1, 10)").outOfRange("anew(0, 4)", "anew(0, 21)");
        site.refused("anew(0, 10)").due(1, "line(0, 1, 1, 0, 1)");
        for (int number = 1; number < 16; number++) {
            site.due(number, "anew(0, 10)");
        }
        site.noSuch("anew(16, 10)").outOfRange("anew(0, 4)").refused("anew(0, 10)", "begin(0, 3, 0)").due(1, "rows(15)");
    }

    private static void publish() {
        Site site = new Site("promises 5 and 6");
        site.due(0, "begin(0, 3, 0)").refused("publish(0)").due(-1, "original(0)").due(1, "line(0, 1, 1, 0, 1)");
        site.due(-1, "original(0)").due(0, "publish(0)").due(0, "original(0)").refused("publish(0)").due(0, "original(0)");
        site.noSuch("publish(1)", "publish(-1)", "publish(2147483647)", "original(1)", "original(-1)");
        site.due(1, "begin(0, 3, 0)").refused("publish(1)").due(-1, "original(1)").due(1, "line(1, 1, 1, 0, 1)");
        site.due(0, "publish(1)").due(0, "original(1)").due(0, "original(0)");
    }

    private static void publishOrder() {
        Site site = new Site("promise 6, the order of publishing");
        for (int number = 0; number < 4; number++) {
            site.due(number, "begin(" + number + ", 3, 10)").due(2, "line(" + number + ", 1, 1, 0, 2)");
        }
        // The higher number is the original, as it was published before; so 1 is a copy of 3 and not of 0.
        site.due(3, "publish(3)").due(3, "publish(1)").due(3, "publish(0)").due(3, "original(0)").due(3, "original(1)");
        site.due(-1, "original(2)").due(3, "original(3)").due(20 - 10, "buy(1, 4)").due(10, "rule(1)");
        site.due(10, "money(3)").due(0, "money(1)").due(3, "publish(2)");
    }

    private static void originalByChart() {
        Site site = new Site("promise 6, the same chart by other lines");
        site.due(0, "begin(0, 4, 0)").due(3, "line(0, 2, 2, 0, 3)").due(0, "publish(0)");
        site.due(1, "begin(1, 4, 0)").due(1, "line(1, 2, 2, 0, 1)").due(3, "line(1, 2, 9, 0, 2)").due(0, "publish(1)");
        // The shaping behind the last row is not seen in the chart.
        site.due(2, "begin(2, 4, 0)").due(2, "line(2, 2, 3, 0, 2)").due(3, "line(2, 2, 2, -3, 1)").due(0, "publish(2)");
        site.due(3, "begin(3, 4, 0)").due(2, "line(3, 2, 2, 0, 2)").due(2, "rows(3)").due(3, "publish(3)");
        site.due(4, "begin(3, 4, 0)").due(3, "line(4, 2, 1, 0, 3)").due(4, "publish(4)");
        site.due(5, "begin(3, 4, 0)").due(4, "line(5, 2, 2, 0, 4)").due(5, "publish(5)");
        site.due(6, "begin(4, 4, 0)").due(2, "line(6, 2, 2, 0, 2)").due(3, "publish(6)");
        // Only the last stitch of the last row is another one.
        site.due(7, "begin(4, 4, 0)").due(2, "line(7, 2, 2, 0, 2)").due(3, "line(7, 2, 1, 0, 1)").due(7, "publish(7)");
        // Only the first row is another one.
        site.due(8, "begin(4, 4, 0)").due(1, "line(8, 0, 1, 0, 1)").due(3, "line(8, 2, 2, 0, 2)").due(8, "publish(8)");
        // Only the first stitch of all is another one.
        site.due(9, "begin(4, 4, 0)").due(1, "line(9, 1, 9, 0, 1)").due(9, "publish(9)");
        site.due(10, "begin(4, 4, 0)").due(1, "line(10, 0, 9, 0, 1)").due(10, "publish(10)");
    }

    private static void originalOfOtherWidths() {
        Site site = new Site("promise 6, other widths");
        site.due(0, "begin(0, 4, 0)").due(2, "line(0, 1, 0, 0, 2)").due(0, "publish(0)");
        site.due(1, "begin(1, 5, 0)").due(2, "line(1, 1, 0, 0, 2)").due(1, "publish(1)");
        site.due(2, "begin(1, 3, 0)").due(2, "line(2, 1, 0, 0, 2)").due(2, "publish(2)");
        site.due(3, "begin(1, 4, 0)").due(2, "line(3, 1, 0, 1, 2)").due(3, "publish(3)");
        site.due(4, "begin(1, 4, 0)").due(2, "line(4, 1, 0, -1, 2)").due(4, "publish(4)");
        // A width that stays 1 makes the same chart with shaping or without.
        site.due(5, "begin(1, 1, 0)").due(3, "line(5, 1, 0, -3, 3)").due(5, "publish(5)");
        site.due(6, "begin(2, 1, 0)").due(3, "line(6, 9, 9, 0, 3)").due(5, "publish(6)");
        // Only the last row, that is 40 wide, is another one.
        for (int number = 7; number < 10; number++) {
            site.due(number, "begin(0, 20, 0)").due(7, "line(" + number + ", 1, 0, 3, 7)");
        }
        site.due(8, "line(7, 9, 5, 0, 1)").due(8, "line(8, 9, 4, 0, 1)").due(8, "line(9, 9, 5, 1, 1)");
        site.due(7, "publish(7)").due(8, "publish(8)").due(7, "publish(9)");
    }

    private static void rows() {
        Site site = new Site("promise 7");
        site.due(0, "begin(0, 4, 0)").due(0, "rows(0)").due(3, "line(0, 1, 1, 0, 3)").due(3, "rows(0)");
        site.due(7, "line(0, 1, 1, 0, 4)").due(7, "rows(0)").due(0, "publish(0)").due(7, "rows(0)");
        site.noSuch("rows(1)", "rows(-1)", "rows(16)", "rows(2147483647)", "rows(-2147483648)");
    }

    private static void need() {
        Site site = new Site("promise 10");
        site.due(0, "begin(0, 3, 0)").due(0, "need(0, 5)");
        // Rows KPP KPPK: 2 + 3 + 3, and 2 + 3 + 3 + 2.
        site.due(2, "line(0, 1, 2, 1, 2)").due(18 * 5, "need(0, 5)").due(18 * 20, "need(0, 20)").due(18 * 7, "need(0, 7)");
        site.due(3, "line(0, 9, 0, 0, 1)").due((18 + 10) * 11, "need(0, 11)");
        site.noSuch("need(1, 10)", "need(-1, 10)", "need(1, 4)").outOfRange("need(0, 4)", "need(0, 21)", "need(0, 0)");
        site.outOfRange("need(0, -2147483648)", "need(0, 2147483647)").due(28 * 10, "need(0, 10)");
        site.due(1, "begin(0, 20, 0)").due(20, "line(1, 0, 1, 3, 20)").due(40, "line(1, 0, 1, 3, 20)");
        // 20 23 26 29 32 35 38 and 33 rows of 40.
        site.due(3 * 20 * (203 + 33 * 40), "need(1, 20)");
    }
}
