/** Promises 11 to 13: buy, rule, money. */
public final class SalesTest {
    public static void main(String[] args) {
        buy();
        buyRefused();
        rule();
        ruleOfOneOwner();
        ruleNotPassedOn();
        ruleRefused();
        boughtByTheOriginalsOwner();
        knittingAfterTheRuling();
        money();
        Site.end();
    }

    /** Patterns of the same chart, of the owners and at the prices that are given, each published. */
    private static Site published(String test, int[] owners, int[] prices) {
        Site site = new Site(test);
        for (int number = 0; number < owners.length; number++) {
            site.due(number, "begin(" + owners[number] + ", 4, " + prices[number] + ")");
            site.due(2, "line(" + number + ", 1, 1, 0, 2)");
            site.due(0, "publish(" + number + ")");
        }
        return site;
    }

    private static void buy() {
        Site site = published("promise 11", new int[] {0, 1}, new int[] {100, 1000});
        site.due(100, "buy(0, 1)").due(200, "buy(0, 4)").due(200, "money(0)").due(-100, "money(1)").due(-100, "money(4)");
        site.due(900, "buy(1, 0)").due(-800, "money(0)").due(900, "money(1)").due(-700, "buy(0, 2)").due(-600, "buy(0, 3)");
        site.due(2, "begin(3, 4, 0)").due(1, "line(2, 0, 1, 0, 1)").due(2, "publish(2)");
        site.due(-100, "buy(2, 0)").refused("buy(2, 0)").due(-100, "money(3)").due(-600, "money(0)");
    }

    private static void buyRefused() {
        Site site = new Site("promise 11, wrong inputs");
        site.noSuch("buy(0, 0)").due(0, "begin(2, 4, 70)").due(1, "line(0, 1, 1, 0, 1)");
        site.refused("buy(0, 1)", "buy(0, 2)").due(0, "publish(0)").refused("buy(0, 2)");
        site.noSuch("buy(0, -1)", "buy(0, 5)", "buy(1, 1)", "buy(-1, 1)", "buy(1, 5)", "buy(0, 2147483647)");
        site.due(0, "money(1)").due(0, "money(2)").due(70, "buy(0, 1)").refused("buy(0, 1)", "buy(0, 2)");
        site.due(70, "money(2)").due(-70, "money(1)").due(140, "buy(0, 0)").refused("buy(0, 0)", "buy(0, 1)");
        site.noSuch("buy(0, 5)", "buy(16, 0)").due(140, "money(2)");
    }

    private static void rule() {
        Site site = published("promise 12", new int[] {0, 1, 2}, new int[] {500, 30, 7});
        site.due(30, "buy(1, 2)").due(60, "buy(1, 3)").due(-23, "buy(2, 3)");
        site.due(60, "rule(1)").due(60, "money(0)").due(0, "money(1)").due(-23, "money(2)").due(-37, "money(3)");
        site.refused("rule(1)", "buy(1, 4)", "buy(1, 0)", "buy(1, 2)").due(60, "money(0)").due(0, "money(1)").due(0, "money(4)");
        site.due(0, "original(1)").due(7, "rule(2)").due(67, "money(0)").due(-30, "money(2)").refused("rule(2)", "buy(2, 1)");
        // What the original sells is its owner's, and stays so.
        site.due(567, "buy(0, 1)").refused("rule(0)").due(567, "money(0)").due(-500, "money(1)");
        // A ruling on a copy that nobody bought moves nothing, but bars it.
        site.due(3, "begin(4, 4, 9)").due(2, "line(3, 1, 1, 3, 2)").due(4, "begin(4, 4, 9)").due(2, "line(4, 1, 1, 0, 2)");
        site.due(3, "publish(3)").due(0, "publish(4)").due(0, "rule(4)").due(567, "money(0)").due(0, "money(4)");
        site.refused("buy(4, 1)", "rule(4)").due(9, "buy(3, 1)").refused("rule(3)");
    }

    private static void ruleOfOneOwner() {
        Site site = published("promise 12, the same owner", new int[] {1, 1, 3}, new int[] {10, 20, 40});
        site.refused("rule(0)", "rule(1)").due(20, "buy(1, 0)").refused("rule(1)").due(20, "money(1)");
        site.due(40, "buy(2, 0)").due(40, "rule(2)").due(60, "money(1)").due(80, "buy(1, 4)");
    }

    /** A barred copy's owner is not paid for a copy of it: the original is the first one of all. */
    private static void ruleNotPassedOn() {
        Site site = published("promise 12, a copy of a copy", new int[] {2, 4, 0}, new int[] {1, 2, 3});
        site.due(0, "rule(1)").due(3, "buy(2, 4)").due(3, "rule(2)").due(3, "money(2)").due(-3, "money(4)").due(0, "money(0)");
        site.due(3, "begin(3, 4, 8)").due(2, "line(3, 1, 1, 0, 2)").due(0, "publish(3)").due(8, "buy(3, 4)").due(8, "rule(3)");
        site.due(11, "money(2)").due(-11, "money(4)").due(0, "money(3)");
    }

    private static void ruleRefused() {
        Site site = published("promise 12, wrong inputs", new int[] {0}, new int[] {25});
        site.noSuch("rule(1)", "rule(-1)", "rule(16)", "rule(2147483647)").refused("rule(0)");
        site.due(1, "begin(1, 4, 5)").refused("rule(1)").due(2, "line(1, 1, 1, 0, 2)").refused("rule(1)");
        site.due(0, "publish(1)").due(5, "buy(1, 0)").due(5, "rule(1)").refused("rule(1)").due(0, "money(0)").due(0, "money(1)");
    }

    private static void boughtByTheOriginalsOwner() {
        Site site = published("promise 12, bought by the original's owner", new int[] {3, 4}, new int[] {0, 600});
        site.due(600, "buy(1, 3)").due(-600, "money(3)").due(600, "rule(1)").due(0, "money(3)").due(0, "money(4)");
    }

    private static void knittingAfterTheRuling() {
        Site site = published("promises 12 and 17", new int[] {0, 1}, new int[] {10, 20});
        site.due(20, "buy(1, 2)").due(20, "rule(1)");
        site.due(0, "lot(2, 5, 1000)").due(1, "lot(1, 5, 1000)").due(2, "lot(3, 5, 1000)");
        site.due(0, "project(2, 1, 0)").due(2, "knit(0, 2)").due(1, "project(1, 1, 1)").due(2, "knit(1, 2)");
        site.refused("buy(1, 3)", "project(3, 1, 2)").due(0, "money(3)");
    }

    private static void money() {
        Site site = published("promise 13", new int[] {4}, new int[] {1000});
        site.noSuch("money(-1)", "money(5)", "money(2147483647)", "money(-2147483648)");
        for (int person = 0; person < 4; person++) {
            site.due(0, "money(" + person + ")").due(1000 * person + 1000, "buy(0, " + person + ")");
            site.due(-1000, "money(" + person + ")");
        }
        site.due(4000, "money(4)");
    }
}
