/**
 * The sentences of "Terms" about sales, rulings, yarn and projects that name a boundary case, each with a test of its
 * own, at the bound and one step beyond it. What is written as a scene's name is the sentence.
 */
public final class SalesAndYarnTermsTest {
    public static void main(String[] args) {
        onlyPublishedPatternsAreBought();
        onlyPatternsNotBarredAreBought();
        onceByEachPerson();
        notByItsOwner();
        priceGoesFromBuyerToOwner();
        moneyIs0AtFirst();
        moneyMayBeBelow0();
        allSalesSoFar();
        toTheOwnerOfItsOriginal();
        barredForGood();
        thoseWhoBoughtMayStillKnit();
        lotsUpTo20();
        gaugeOfALot();
        yarnOfALot();
        whatARowNeeds();
        bothHaveTheOthersOwner();
        projectsUpTo12();
        aPatternThatThePersonOwnsOrHasBought();
        fromTheFirstRowOn();
        asLongAsTheLotIsThePersons();
        enoughForTheWholeRow();
        Site.end();
    }

    /** Person 0's pattern 0 at 500, and copies of it: person 1's pattern 1 at 30, person 2's pattern 2 at 7. */
    private static Scene copied(String sentence) {
        return new Scene(sentence, "begin(0, 4, 500)", "begin(1, 4, 30)", "begin(2, 4, 7)")
                .withEach("line(#, 1, 1, 0, 2)", 0, 2).withEach("publish(#)", 0, 2);
    }

    private static void onlyPublishedPatternsAreBought() {
        Scene scene = new Scene("A published pattern can be bought.", "begin(0, 4, 10)", "line(0, 1, 1, 0, 1)");
        scene.refused("buy(0, 1)").open().refused("buy(0, 1)").due(0, "publish(0)").due(10, "buy(0, 1)");
    }

    private static void onlyPatternsNotBarredAreBought() {
        Scene scene = copied("A pattern that is not barred can be bought.");
        scene.open().due(30, "buy(1, 3)").due(30, "rule(1)").refused("buy(1, 4)");
        scene.with("rule(1)").refused("buy(1, 0)", "buy(1, 2)", "buy(1, 4)").open().due(500, "buy(0, 3)")
                .due(7, "buy(2, 1)");
    }

    private static void onceByEachPerson() {
        Scene scene = copied("A pattern can be bought once by each person.");
        scene.open().due(30, "buy(1, 0)").due(60, "buy(1, 2)").due(90, "buy(1, 3)").due(120, "buy(1, 4)")
                .refused("buy(1, 0)", "buy(1, 2)", "buy(1, 3)", "buy(1, 4)").due(120, "money(1)").due(-30, "money(3)");
        // Who has bought one has not bought another of the same chart.
        scene.with("buy(1, 3)").refused("buy(1, 3)").open().due(500, "buy(0, 3)").due(7, "buy(2, 3)");
    }

    private static void notByItsOwner() {
        copied("A pattern can be bought by each person but its owner.").refused("buy(0, 0)", "buy(1, 1)", "buy(2, 2)")
                .open().due(30, "buy(1, 0)").due(470, "buy(0, 1)").due(970, "buy(0, 2)");
    }

    private static void priceGoesFromBuyerToOwner() {
        for (int price : new int[] {0, 1, 999, 1000}) {
            Site site = new Site("The price goes from the buyer to the owner: " + price);
            site.due(0, "begin(4, 1, " + price + ")").due(1, "line(0, 0, 1, 0, 1)").due(0, "publish(0)")
                    .due(price, "buy(0, 0)");
            site.due(price, "money(4)").due(-price, "money(0)").due(0, "money(1)").due(0, "money(2)").due(0, "money(3)");
            site.refused("buy(0, 0)", "buy(0, 4)").due(2 * price, "buy(0, 3)").due(-price, "money(3)")
                    .due(-price, "money(0)");
        }
    }

    private static void moneyIs0AtFirst() {
        Scene scene = new Scene("Money is 0 at first.");
        scene.range(Scene.INDEX, "money(#)", 0, 4, person -> 0);
        scene.with("begin(0, 4, 1000)", "line(0, 1, 1, 0, 1)", "publish(0)")
                .range(Scene.INDEX, "money(#)", 0, 4, person -> 0);
    }

    private static void moneyMayBeBelow0() {
        Scene scene = new Scene("Money may be below 0.").withEach("begin(0, 4, 1000)", 0, 14).with("begin(1, 4, 1)")
                .withEach("line(#, 1, 1, 0, 1)", 0, 15).withEach("publish(#)", 0, 15);
        scene.open().due(1, "buy(15, 0)").due(-1, "money(0)").due(1000 - 1, "buy(0, 1)").due(1 - 1000, "money(1)");
        // As far below 0 and above it as can be: all patterns bought by the others.
        Site site = scene.withEach("buy(#, 1)", 0, 14).withEach("buy(#, 2)", 0, 14).withEach("buy(#, 3)", 0, 14)
                .withEach("buy(#, 4)", 0, 14).open();
        site.due(60000, "money(0)").due(-15000, "money(1)").due(-15000, "money(4)").due(-14999, "buy(15, 4)")
                .due(-15001, "money(4)");
    }

    private static void allSalesSoFar() {
        Scene scene = copied("What its owner got for all its sales so far goes to the owner of its original.");
        scene.open().due(0, "rule(1)").due(0, "money(0)").due(0, "money(1)");
        scene.with("buy(1, 3)").open().due(30, "rule(1)").due(30, "money(0)").due(0, "money(1)").due(-30, "money(3)");
        scene.with("buy(1, 0)", "buy(1, 2)", "buy(1, 3)", "buy(1, 4)").open()
                .due(120, "rule(1)").due(90, "money(0)").due(0, "money(1)").due(-30, "money(2)").due(-30, "money(3)")
                .due(-30, "money(4)");
        // Sales of the original, of the same owner's other pattern and of another copy are not moved.
        scene.with("begin(1, 9, 1000)", "line(3, 1, 1, 0, 1)", "publish(3)", "buy(3, 4)", "buy(0, 4)", "buy(2, 4)",
                "buy(1, 4)").open()
                .due(30, "rule(1)").due(530, "money(0)").due(1000, "money(1)").due(7, "money(2)").due(-1537, "money(4)");
        new Scene("A copy's highest takings.", "begin(0, 4, 0)", "begin(1, 4, 1000)").withEach("line(#, 1, 1, 0, 2)", 0, 1)
                .withEach("publish(#)", 0, 1).with("buy(1, 0)", "buy(1, 2)", "buy(1, 3)", "buy(1, 4)").open()
                .due(4000, "rule(1)").due(3000, "money(0)").due(0, "money(1)");
        // A copy at no price moves nothing, and is barred.
        new Scene("A copy at no price.", "begin(0, 4, 5)", "begin(1, 4, 0)").withEach("line(#, 1, 1, 0, 2)", 0, 1)
                .withEach("publish(#)", 0, 1).with("buy(1, 2)").open().due(0, "rule(1)").due(0, "money(1)")
                .refused("buy(1, 3)", "rule(1)");
    }

    private static void toTheOwnerOfItsOriginal() {
        // The owner of the original is the first publisher, not who wrote the lowest number, nor who wrote a barred copy.
        Scene scene = new Scene("What its owner got goes to the owner of its original.").withEach("begin(#, 4, 10)", 0, 3)
                .withEach("line(#, 1, 1, 0, 2)", 0, 3)
                .with("publish(3)", "publish(0)", "publish(1)", "buy(1, 4)", "buy(0, 4)");
        scene.open().due(10, "rule(1)").due(10, "money(3)").due(10, "money(0)").due(0, "money(1)").due(-20, "money(4)");
    }

    private static void barredForGood() {
        Scene scene = copied("The copy is barred for good: nobody buys it any more.").with("buy(1, 3)", "rule(1)");
        scene.refused("buy(1, 0)", "buy(1, 2)", "buy(1, 3)", "buy(1, 4)", "buy(1, 1)", "rule(1)");
        scene.with("rule(2)", "buy(0, 1)").refused("buy(1, 4)", "buy(2, 4)", "rule(1)", "rule(2)", "rule(0)");
    }

    private static void thoseWhoBoughtMayStillKnit() {
        Scene scene = copied("Those who bought a barred copy may still knit it.").with("buy(1, 3)")
                .withEach("lot(#, 5, 1000)", 0, 4)
                .with("project(3, 1, 3)", "knit(0, 1)", "rule(1)");
        scene.open().due(1, "knit(0, 1)").due(2, "progress(0)").due(1, "project(3, 1, 3)").due(2, "knit(1, 40)");
        scene.refused("project(4, 1, 4)", "project(0, 1, 0)", "project(2, 1, 2)");
    }

    private static void lotsUpTo20() {
        Scene nineteen = new Scene("Lots are numbered from 0, up to 20.").withEach("lot(4, 5, 1#)", 0, 18);
        nineteen.noSuch("left(19)", "swap(0, 19)", "swap(19, 0)").open().due(19, "lot(0, 5, 77)").due(77, "left(19)")
                .refused("lot(0, 5, 77)").noSuch("left(20)").due(0, "swap(0, 19)").due(10, "left(0)").due(118, "left(18)");
        Scene full = nineteen
                .with("lot(0, 5, 77)", "begin(0, 1, 0)", "line(0, 1, 1, 0, 1)", "publish(0)", "project(0, 0, 19)");
        full.refused("lot(0, 5, 77)", "lot(4, 20, 1)").numbered("left(#)", 20).numbered("swap(#, 19)", 20)
                .numbered("swap(19, #)", 20)
                .numbered("take(0, #)", 20).numbered("project(0, 0, #)", 20);
        Scene none = new Scene("Lots are numbered from 0: without any.", "begin(0, 1, 0)", "line(0, 1, 1, 0, 1)",
                "publish(0)");
        none.numbered("left(#)", 0).numbered("swap(#, 0)", 0).numbered("swap(0, #)", 0).numbered("project(0, 0, #)", 0);
        none.open().due(0, "lot(0, 5, 1)").due(1, "left(0)");
    }

    private static void gaugeOfALot() {
        Scene scene = new Scene("A lot is of a gauge from 5 to 20.", "begin(0, 1, 0)", "line(0, 1, 0, 0, 1)", "publish(0)");
        for (int gauge = 5; gauge <= 20; gauge++) {
            scene.open().due(0, "lot(0, " + gauge + ", 100)").due(0, "project(0, 0, 0)").due(1, "knit(0, 1)")
                    .due(100 - 2 * gauge, "left(0)");
        }
        scene.outOfRange("lot(0, 4, 100)", "lot(0, 21, 100)");
    }

    private static void yarnOfALot() {
        Scene scene = new Scene("A lot has some yarn.");
        for (int yarn : new int[] {1, 2, 99999, 100000}) {
            scene.open().due(0, "lot(0, 5, " + yarn + ")").due(yarn, "left(0)");
        }
        scene.outOfRange("lot(0, 5, 0)", "lot(0, 5, 100001)");
    }

    private static void whatARowNeeds() {
        // Width, knits, purls of one row, and what it needs at gauge 1.
        int[][] cases = {{1, 1, 0, 2}, {1, 0, 1, 3}, {2, 1, 1, 5}, {3, 1, 1, 7}, {3, 2, 1, 7}, {3, 1, 2, 8},
                {20, 9, 0, 40}, {20, 0, 9, 60}};
        for (int[] one : cases) {
            for (int gauge : new int[] {5, 6, 19, 20}) {
                int due = gauge * one[3];
                Scene scene = new Scene("A row needs gauge times (2 for each knit and 3 for each purl).",
                        "begin(0, " + one[0] + ", 0)",
                        "line(0, " + one[1] + ", " + one[2] + ", 0, 1)", "publish(0)");
                scene.open().due(due, "need(0, " + gauge + ")").due(0, "lot(0, " + gauge + ", " + due + ")")
                        .due(0, "project(0, 0, 0)").due(1, "knit(0, 1)").due(0, "left(0)");
                scene.open().due(0, "lot(0, " + gauge + ", " + (due - 1) + ")").due(0, "project(0, 0, 0)")
                        .due(0, "knit(0, 1)")
                        .due(due - 1, "left(0)");
            }
        }
    }

    private static void bothHaveTheOthersOwner() {
        Scene scene = new Scene("When two lots are swapped, both have the other one's owner.", "lot(0, 5, 10)",
                "lot(4, 20, 30)", "lot(0, 6, 40)");
        scene.refused("swap(0, 0)", "swap(1, 1)", "swap(0, 2)", "swap(2, 0)");
        // Lot 0 is person 4's then, and lot 1 person 0's; the yarn stays where it is.
        scene.with("swap(0, 1)").refused("swap(1, 2)", "swap(2, 1)", "swap(0, 0)").open().due(10, "left(0)")
                .due(30, "left(1)")
                .due(4, "swap(2, 0)").due(4, "swap(1, 2)").due(4, "swap(2, 1)");
        scene.open().due(4, "swap(0, 1)").due(0, "swap(0, 1)").due(0, "swap(1, 2)").due(4, "swap(1, 2)");
    }

    private static void projectsUpTo12() {
        Scene eleven = new Scene("Projects are numbered from 0, up to 12.", "begin(0, 1, 0)", "line(0, 1, 1, 0, 2)",
                "publish(0)", "lot(0, 5, 500)")
                .withEach("project(0, 0, 0)", 0, 10);
        eleven.noSuch("progress(11)").open().due(11, "project(0, 0, 0)").due(0, "progress(11)").refused("project(0, 0, 0)")
                .noSuch("progress(12)").due(2, "knit(11, 2)").due(0, "progress(10)");
        Scene full = eleven.with("project(0, 0, 0)");
        full.refused("project(0, 0, 0)").numbered("progress(#)", 12).numbered("knit(#, 1)", 12).numbered("take(#, 0)", 12);
        Scene none = new Scene("Projects are numbered from 0: without any.", "lot(0, 5, 500)");
        none.numbered("progress(#)", 0).numbered("knit(#, 1)", 0).numbered("take(#, 0)", 0);
        full.with("buy(0, 1)", "lot(1, 5, 100)").refused("project(1, 0, 1)");
    }

    private static void aPatternThatThePersonOwnsOrHasBought() {
        Scene scene = copied("A person knits a pattern that it owns or has bought.").withEach("lot(#, 5, 100)", 0, 4);
        scene.refused("project(0, 1, 0)", "project(4, 1, 4)").open().due(0, "project(1, 1, 1)").refused("project(3, 1, 3)")
                .due(30, "buy(1, 3)").due(1, "project(3, 1, 3)").refused("project(3, 0, 3)", "project(3, 2, 3)");
    }

    private static void fromTheFirstRowOn() {
        // Rows of 2, 3 and 5 stitches: 4, 9 and 10 a gauge.
        Scene scene = new Scene("Rows are knitted from the first one on.", "begin(0, 2, 0)", "line(0, 1, 0, 1, 1)",
                "line(0, 0, 1, 2, 1)",
                "line(0, 1, 0, 0, 1)", "publish(0)", "lot(0, 5, 1000)", "project(0, 0, 0)");
        scene.open().due(0, "progress(0)").due(1, "knit(0, 1)").due(980, "left(0)").due(1, "knit(0, 1)").due(935, "left(0)")
                .due(1, "knit(0, 1)").due(885, "left(0)").due(3, "progress(0)").due(0, "knit(0, 1)").due(885, "left(0)");
        scene.open().due(2, "knit(0, 2)").due(935, "left(0)").due(1, "knit(0, 2)").due(885, "left(0)")
                .due(0, "knit(0, 2)").due(3, "progress(0)");
        scene.open().due(3, "knit(0, 3)").due(885, "left(0)").due(0, "knit(0, 40)").due(3, "progress(0)");
        scene.open().due(3, "knit(0, 4)").due(885, "left(0)").due(3, "progress(0)");
        // Each project has its own rows.
        scene.with("knit(0, 2)", "project(0, 0, 0)").open().due(0, "progress(1)").due(1, "knit(1, 1)")
                .due(915, "left(0)").due(2, "progress(0)");
    }

    private static void asLongAsTheLotIsThePersons() {
        Scene scene = new Scene("Rows are knitted as long as the lot is the person's.", "begin(0, 1, 0)",
                "line(0, 1, 0, 0, 3)", "publish(0)",
                "lot(0, 5, 100)", "lot(1, 5, 100)", "project(0, 0, 0)", "knit(0, 1)");
        scene.open().due(1, "knit(0, 1)").due(80, "left(0)").due(2, "progress(0)");
        Scene swapped = scene.with("swap(0, 1)");
        swapped.open().due(0, "knit(0, 1)").due(0, "knit(0, 40)").due(90, "left(0)").due(100, "left(1)")
                .due(1, "progress(0)");
        swapped.with("swap(1, 0)").open().due(2, "knit(0, 2)").due(70, "left(0)").due(3, "progress(0)");
        swapped.with("take(0, 1)").open().due(2, "knit(0, 2)").due(90, "left(0)").due(80, "left(1)").due(3, "progress(0)");
        // Who has the lot now does not knit another one's project by it.
        swapped.with("buy(0, 1)", "project(1, 0, 0)").open().due(3, "knit(1, 40)").due(60, "left(0)")
                .due(0, "knit(0, 1)").due(1, "progress(0)");
    }

    private static void enoughForTheWholeRow() {
        // Rows KP, KPK, KPKP: 5, 7 and 10 a gauge, so 25, 60 and 110 at gauge 5.
        int[][] cases = {{1, 0, 1}, {24, 0, 24}, {25, 1, 0}, {26, 1, 1}, {59, 1, 34}, {60, 2, 0}, {61, 2, 1},
                {109, 2, 49}, {110, 3, 0}, {111, 3, 1}};
        for (int[] one : cases) {
            Scene scene = new Scene("The lot has enough for the whole row: " + one[0], "begin(0, 2, 0)",
                    "line(0, 1, 1, 1, 3)", "publish(0)",
                    "lot(0, 5, " + one[0] + ")", "project(0, 0, 0)");
            scene.open().due(one[1], "knit(0, 40)").due(one[2], "left(0)").due(one[1], "progress(0)")
                    .due(0, "knit(0, 1)").due(one[2], "left(0)");
        }
        // A later row that needs less is not knitted instead: rows PPPP and K.
        new Scene("The lot has enough for the whole row, and no row is passed over.", "begin(0, 4, 0)",
                "line(0, 0, 1, -3, 1)", "line(0, 1, 0, 0, 1)",
                "publish(0)", "lot(0, 5, 59)", "project(0, 0, 0)").open().due(0, "knit(0, 40)").due(59, "left(0)")
                .due(0, "progress(0)");
    }
}
