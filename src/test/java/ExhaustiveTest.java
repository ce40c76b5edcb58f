/**
 * What the document tells by a rule over small numbers, tried for all of them: turns, widths, working out anew, what
 * rows need, who pays whom, and whose lot is knitted. The due answers are worked out here from the document's words alone.
 */
public final class ExhaustiveTest {
    private static final String[] WAYS = {"stitch", "stitchByWork"};

    public static void main(String[] args) {
        turnsOfAllLines();
        widthsOfAllShapings();
        firstWidthsWhenAnew();
        timesWhenAnew();
        yarnOfAllRows();
        salesAmongAllPeople();
        swapsAmongAllPeople();
        Site.end();
    }

    private static int stitchDue(int knits, int purls, int place) {
        return place % (knits + purls) < knits ? Yarncourt.KNIT : Yarncourt.PURL;
    }

    /** Each knits and purls, in rows of 20, 23, 26, 29, 32, 35, 38 and 40 stitches. */
    private static void turnsOfAllLines() {
        int[] widths = {20, 23, 26, 29, 32, 35, 38, 40};
        for (int line = 1; line < 100; line++) {
            int knits = line / 10;
            int purls = line % 10;
            for (int row = 0; row < widths.length; row++) {
                Site site = new Site("turns of " + knits + " knits and " + purls + " purls").due(0, "begin(0, 20, 0)")
                        .due(8, "line(0, " + knits + ", " + purls + ", 3, 8)");
                for (String way : WAYS) {
                    for (int place = 0; place < 42; place++) {
                        int due = place < widths[row] ? stitchDue(knits, purls, place) : Yarncourt.NOTHING;
                        site.due(due, way + "(0, " + row + ", " + place + ")");
                    }
                }
            }
        }
    }

    /** Each first width with each two shapings, for 20 rows each: 40 rows, at their last place and behind it. */
    private static void widthsOfAllShapings() {
        for (int width = 1; width <= 20; width++) {
            for (int shaping = -3; shaping <= 3; shaping++) {
                for (int other = -3; other <= 3; other++) {
                    Site site = new Site("widths from " + width + " by " + shaping + " and " + other)
                            .due(0, "begin(0, " + width + ", 0)").due(20, "line(0, 1, 0, " + shaping + ", 20)")
                            .due(40, "line(0, 0, 1, " + other + ", 20)");
                    widthsOfRows(site, width, shaping, other);
                }
            }
        }
    }

    private static void widthsOfRows(Site site, int firstWidth, int shaping, int other) {
        int width = firstWidth;
        int yarn = 0;
        for (int row = 0; row < 40; row++) {
            int due = row < 20 ? Yarncourt.KNIT : Yarncourt.PURL;
            for (String way : WAYS) {
                site.due(due, way + "(0, " + row + ", " + (width - 1) + ")");
                site.due(Yarncourt.NOTHING, way + "(0, " + row + ", " + width + ")");
            }
            yarn += width * (row < 20 ? 2 : 3);
            width = widthBehind(width, row < 20 ? shaping : other);
        }
        site.due(5 * yarn, "need(0, 5)").due(20 * yarn, "need(0, 20)");
    }

    private static int widthBehind(int width, int shaping) {
        int together = width + shaping;
        return together < 1 ? 1 : together > 40 ? 40 : together;
    }

    private static void firstWidthsWhenAnew() {
        for (int width = 1; width <= 20; width++) {
            for (int gauge = 5; gauge <= 20; gauge++) {
                int due = width * gauge / 10;
                due = due < 1 ? 1 : due > 20 ? 20 : due;
                Site site = new Site("first width " + width + " worked out anew for " + gauge)
                        .due(0, "begin(0, " + width + ", 0)").due(1, "line(0, 1, 1, 0, 1)").due(1, "anew(0, " + gauge + ")");
                for (String way : WAYS) {
                    site.due(stitchDue(1, 1, due - 1), way + "(1, 0, " + (due - 1) + ")").due(0, way + "(1, 0, " + due + ")");
                }
            }
        }
    }

    /** Each two lines' times that make no more than 40 rows, for each gauge. */
    private static void timesWhenAnew() {
        for (int times = 1; times <= 20; times++) {
            for (int more = 1; more <= 20; more++) {
                Site site = new Site("lines worked " + times + " and " + more + " times worked out anew")
                        .due(0, "begin(0, 4, 0)").due(times, "line(0, 1, 0, 0, " + times + ")")
                        .due(times + more, "line(0, 0, 1, 0, " + more + ")");
                int made = 0;
                for (int gauge = 5; gauge <= 20; gauge++) {
                    int first = timesDue(times, gauge);
                    int rows = first + timesDue(more, gauge);
                    if (rows > 40 || made == 15) {
                        site.refused("anew(0, " + gauge + ")");
                    } else {
                        made++;
                        linesAre(site.due(made, "anew(0, " + gauge + ")"), made, first, rows);
                    }
                }
            }
        }
    }

    private static int timesDue(int times, int gauge) {
        return times * gauge < 10 ? 1 : times * gauge / 10;
    }

    private static void linesAre(Site site, int pattern, int knitted, int rows) {
        site.due(rows, "rows(" + pattern + ")");
        for (String way : WAYS) {
            site.due(Yarncourt.KNIT, way + "(" + pattern + ", " + (knitted - 1) + ", 0)");
            site.due(Yarncourt.PURL, way + "(" + pattern + ", " + knitted + ", 0)");
            site.due(Yarncourt.PURL, way + "(" + pattern + ", " + (rows - 1) + ", 0)");
            site.noSuch(way + "(" + pattern + ", " + rows + ", 0)");
        }
    }

    /** Each gauge, with a row of each width up to 20: what it needs is enough, and one less is not. */
    private static void yarnOfAllRows() {
        for (int width = 1; width <= 20; width++) {
            for (int gauge = 5; gauge <= 20; gauge++) {
                int yarn = 0;
                for (int place = 0; place < width; place++) {
                    yarn += gauge * (stitchDue(3, 2, place) == Yarncourt.KNIT ? 2 : 3);
                }
                Site site = new Site("yarn of a row of " + width + " at gauge " + gauge).due(0, "begin(1, " + width + ", 0)")
                        .due(1, "line(0, 3, 2, 0, 1)").due(0, "publish(0)").due(yarn, "need(0, " + gauge + ")")
                        .due(0, "lot(1, " + gauge + ", " + yarn + ")").due(1, "lot(1, " + gauge + ", " + (yarn - 1) + ")");
                site.due(0, "project(1, 0, 0)").due(1, "knit(0, 1)").due(0, "left(0)");
                site.due(1, "project(1, 0, 1)").due(0, "knit(1, 1)").due(yarn - 1, "left(1)");
            }
        }
    }

    /** Each owner with each buyer, of an original and of a copy that is ruled on then. */
    private static void salesAmongAllPeople() {
        for (int first = 0; first < 5; first++) {
            for (int copier = 0; copier < 5; copier++) {
                for (int buyer = 0; buyer < 5; buyer++) {
                    saleAndRuling(first, copier, buyer);
                }
            }
        }
    }

    private static void saleAndRuling(int first, int copier, int buyer) {
        Site site = new Site("the original's owner " + first + ", the copy's " + copier + ", the buyer " + buyer);
        site.due(0, "begin(" + first + ", 4, 3)").due(1, "begin(" + copier + ", 4, 500)").due(2, "line(0, 1, 1, 0, 2)")
                .due(2, "line(1, 1, 1, 0, 2)").due(0, "publish(0)").due(0, "publish(1)");
        int[] money = new int[5];
        int paid = 0;
        if (buyer == copier) {
            site.refused("buy(1, " + buyer + ")");
        } else {
            paid = 500;
            money[buyer] -= paid;
            money[copier] += paid;
            site.due(money[copier], "buy(1, " + buyer + ")").refused("buy(1, " + buyer + ")");
        }
        moneyIs(site, money);
        if (first == copier) {
            site.refused("rule(1)");
        } else {
            money[copier] -= paid;
            money[first] += paid;
            site.due(paid, "rule(1)").refused("rule(1)", "buy(1, " + (buyer + 1) % 5 + ")");
        }
        moneyIs(site, money);
    }

    private static void moneyIs(Site site, int[] money) {
        for (int person = 0; person < money.length; person++) {
            site.due(money[person], "money(" + person + ")");
        }
    }

    /** Each two people: a project rests while its lot is the other one's, and goes on with what its person got for it. */
    private static void swapsAmongAllPeople() {
        for (int person = 0; person < 5; person++) {
            for (int other = 0; other < 5; other++) {
                Site site = new Site("lots of " + person + " and " + other).due(0, "begin(" + person + ", 1, 0)")
                        .due(9, "line(0, 1, 0, 0, 9)").due(0, "publish(0)").due(0, "lot(" + person + ", 5, 90)")
                        .due(1, "lot(" + other + ", 6, 90)").due(0, "project(" + person + ", 0, 0)");
                if (person == other) {
                    site.refused("swap(0, 1)", "swap(1, 0)").due(0, "take(0, 1)").due(1, "knit(0, 1)").due(78, "left(1)");
                } else {
                    site.refused("take(0, 1)", "project(" + person + ", 0, 1)").due(1, "knit(0, 1)");
                    site.due(other, "swap(0, 1)").due(0, "knit(0, 1)").due(80, "left(0)").due(90, "left(1)");
                    site.refused("take(0, 0)", "project(" + person + ", 0, 0)").due(0, "take(0, 1)");
                    site.due(1, "knit(0, 1)").due(78, "left(1)").due(person, "swap(0, 1)").due(0, "knit(0, 1)");
                    site.due(1, "take(0, 0)").due(1, "knit(0, 1)").due(70, "left(0)").due(78, "left(1)");
                }
            }
        }
    }
}
