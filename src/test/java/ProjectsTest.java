/** Promises 17 to 20: project, take, knit, progress. */
public final class ProjectsTest {
    public static void main(String[] args) {
        project();
        projectRefused();
        projectOrder();
        projectsFull();
        take();
        takeRefused();
        knit();
        knitRowsOfManyKinds();
        knitExactYarn();
        knitSwappedLot();
        twoProjectsOfOneLot();
        knitWrong();
        progress();
        Site.end();
    }

    /** Person 0 owns pattern 0, of rows KKP KKPK KKPKK at a price of 10: 7, 9 and 11 times the gauge. */
    private static Site withPattern(String test) {
        Site site = new Site(test);
        return site.due(0, "begin(0, 3, 10)").due(3, "line(0, 2, 1, 1, 3)").due(0, "publish(0)");
    }

    private static void project() {
        Site site = withPattern("promise 17");
        site.due(0, "lot(0, 5, 500)").due(1, "lot(1, 10, 500)").due(2, "lot(1, 20, 500)");
        site.due(0, "project(0, 0, 0)").refused("project(1, 0, 1)").due(10, "buy(0, 1)");
        site.due(1, "project(1, 0, 1)").due(2, "project(1, 0, 1)").due(3, "project(1, 0, 2)").due(4, "project(0, 0, 0)");
        site.due(3, "knit(0, 3)").due(1, "knit(1, 1)").due(2, "knit(3, 2)");
        site.due(500 - 27 * 5, "left(0)").due(500 - 7 * 10, "left(1)").due(500 - 16 * 20, "left(2)");
    }

    private static void projectRefused() {
        Site site = withPattern("promise 17, wrong inputs");
        site.due(0, "lot(0, 5, 500)").due(1, "lot(1, 5, 500)");
        site.noSuch("project(-1, 0, 0)", "project(5, 0, 0)", "project(0, -1, 0)", "project(0, 1, 0)", "project(0, 0, -1)");
        site.noSuch("project(0, 0, 2)", "project(2147483647, 0, 0)", "project(0, 2147483647, 0)", "project(0, 0, 2147483647)");
        // Not published, though it is the person's own.
        site.due(1, "begin(0, 3, 10)").refused("project(0, 1, 0)").due(3, "line(1, 1, 1, 1, 3)").refused("project(0, 1, 0)");
        // Another one's pattern; another one's lot.
        site.refused("project(1, 0, 1)", "project(0, 0, 1)", "project(1, 0, 0)").due(10, "buy(0, 1)");
        site.refused("project(1, 0, 0)", "project(0, 0, 1)").noSuch("progress(0)").due(0, "project(1, 0, 1)");
        // Who bought the original has not bought the copy.
        site.due(2, "begin(2, 3, 10)").due(3, "line(2, 2, 1, 1, 3)").due(0, "publish(2)").refused("project(1, 2, 1)");
        site.refused("project(0, 2, 0)").due(10, "buy(2, 1)").due(1, "project(1, 2, 1)");
    }

    private static void projectOrder() {
        Site site = new Site("promise 17, order");
        site.due(0, "begin(0, 3, 10)").due(3, "line(0, 2, 1, 1, 3)").due(0, "lot(1, 5, 500)");
        site.noSuch("project(5, 0, 0)", "project(1, 1, 0)", "project(1, 0, 1)").refused("project(1, 0, 0)", "project(0, 0, 0)");
    }

    private static void projectsFull() {
        Site site = withPattern("promise 17, full");
        site.due(0, "lot(0, 5, 500)");
        for (int number = 0; number < 12; number++) {
            site.due(number, "project(0, 0, 0)");
        }
        site.refused("project(0, 0, 0)").noSuch("project(0, 0, 1)", "progress(12)").due(0, "progress(11)");
    }

    private static void take() {
        Site site = withPattern("promise 18");
        site.due(0, "lot(0, 5, 40)").due(1, "lot(0, 10, 95)").due(2, "lot(1, 20, 1000)").due(0, "project(0, 0, 0)");
        site.due(1, "knit(0, 3)").due(5, "left(0)").due(0, "take(0, 1)").due(1, "take(0, 1)").due(1, "knit(0, 3)");
        site.due(5, "left(1)").due(5, "left(0)").due(2, "progress(0)");
        // The gauge of the lot that it has now counts.
        site.due(0, "swap(2, 1)").due(1, "take(0, 2)").due(1, "knit(0, 3)").due(1000 - 11 * 20, "left(2)").due(3, "progress(0)");
        site.due(2, "take(0, 0)").due(0, "take(0, 2)");
    }

    private static void takeRefused() {
        Site site = withPattern("promise 18, wrong inputs");
        site.noSuch("take(0, 0)").due(0, "lot(0, 5, 500)").due(1, "lot(1, 5, 500)").due(2, "lot(0, 5, 500)").due(0, "project(0, 0, 0)");
        site.noSuch("take(1, 0)", "take(-1, 0)", "take(0, 3)", "take(0, -1)", "take(1, 1)", "take(12, 20)", "take(0, 2147483647)");
        site.refused("take(0, 1)").due(0, "take(0, 2)").refused("take(0, 1)").due(2, "take(0, 0)");
        // A lot that has come to another one is not taken again, and is left for one that is the person's.
        site.due(1, "swap(0, 1)").refused("take(0, 0)").due(0, "take(0, 1)").refused("take(0, 0)").due(1, "take(0, 2)");
    }

    private static void knit() {
        Site site = withPattern("promise 19");
        site.due(0, "lot(0, 10, 1000)").due(0, "project(0, 0, 0)").due(1, "knit(0, 1)").due(1000 - 70, "left(0)");
        site.due(1, "knit(0, 1)").due(1000 - 160, "left(0)").due(1, "knit(0, 40)").due(1000 - 270, "left(0)");
        site.due(0, "knit(0, 1)").due(0, "knit(0, 40)").due(1000 - 270, "left(0)").due(3, "progress(0)");
        site.due(1, "project(0, 0, 0)").due(2, "knit(1, 2)").due(1000 - 430, "left(0)").due(1, "knit(1, 2)").due(3, "progress(1)");
    }

    private static void knitRowsOfManyKinds() {
        Site site = new Site("promise 19, 40 rows");
        site.due(0, "begin(4, 20, 0)").due(20, "line(0, 0, 1, 3, 20)").due(40, "line(0, 1, 0, -1, 20)").due(0, "publish(0)");
        site.due(0, "lot(4, 20, 100000)").due(0, "project(4, 0, 0)").due(40, "knit(0, 40)");
        // Purls: 20 23 26 29 32 35 38, 13 rows of 40; knits: 40 39 and so on to 21.
        site.due(100000 - 20 * (3 * (203 + 13 * 40) + 2 * 610), "left(0)").due(40, "progress(0)").due(0, "knit(0, 1)");
    }

    private static void knitExactYarn() {
        Site site = withPattern("promise 19, just enough");
        site.due(0, "lot(0, 5, 80)").due(1, "lot(0, 5, 79)").due(2, "lot(0, 5, 34)").due(3, "lot(0, 5, 35)");
        site.due(0, "project(0, 0, 0)").due(2, "knit(0, 40)").due(0, "left(0)").due(2, "progress(0)").due(0, "knit(0, 1)");
        // No part of a row is knitted.
        site.due(1, "project(0, 0, 1)").due(1, "knit(1, 40)").due(44, "left(1)").due(1, "progress(1)");
        site.due(2, "project(0, 0, 2)").due(0, "knit(2, 40)").due(34, "left(2)").due(0, "progress(2)");
        site.due(3, "project(0, 0, 3)").due(1, "knit(3, 40)").due(0, "left(3)").due(1, "progress(3)");
    }

    private static void knitSwappedLot() {
        Site site = withPattern("promise 19, a lot that was swapped");
        site.due(0, "lot(0, 5, 1000)").due(1, "lot(1, 10, 1000)").due(0, "project(0, 0, 0)").due(1, "knit(0, 1)");
        site.due(1, "swap(0, 1)").due(0, "knit(0, 1)").due(965, "left(0)").due(1000, "left(1)").due(1, "progress(0)");
        // The project keeps its lot, and goes on when the lot comes back.
        site.due(0, "swap(0, 1)").due(1, "knit(0, 1)").due(920, "left(0)").due(1000, "left(1)");
        site.due(1, "swap(0, 1)").due(0, "take(0, 1)").due(1, "knit(0, 1)").due(920, "left(0)").due(890, "left(1)");
    }

    private static void twoProjectsOfOneLot() {
        Site site = withPattern("promise 19, one lot for two projects");
        site.due(0, "lot(0, 5, 100)").due(0, "project(0, 0, 0)").due(1, "project(0, 0, 0)");
        site.due(1, "knit(0, 1)").due(1, "knit(1, 1)").due(30, "left(0)").due(0, "knit(0, 1)").due(0, "knit(1, 1)");
        site.due(1, "progress(0)").due(1, "progress(1)");
    }

    private static void knitWrong() {
        Site site = withPattern("promise 19, wrong inputs");
        site.noSuch("knit(0, 1)", "knit(0, 0)").due(0, "lot(0, 5, 1000)").due(0, "project(0, 0, 0)");
        site.noSuch("knit(1, 1)", "knit(-1, 1)", "knit(1, 0)", "knit(-1, 41)", "knit(2147483647, 1)");
        site.outOfRange("knit(0, 0)", "knit(0, 41)", "knit(0, -1)", "knit(0, -2147483648)", "knit(0, 2147483647)");
        site.due(0, "progress(0)").due(1000, "left(0)").due(3, "knit(0, 40)").outOfRange("knit(0, 41)");
    }

    private static void progress() {
        Site site = withPattern("promise 20");
        site.noSuch("progress(0)").due(0, "lot(0, 5, 1000)").due(0, "project(0, 0, 0)").due(1, "project(0, 0, 0)");
        site.due(0, "progress(0)").due(2, "knit(0, 2)").due(2, "progress(0)").due(0, "progress(1)").due(3, "knit(1, 9)");
        site.due(3, "progress(1)").due(2, "progress(0)").noSuch("progress(2)", "progress(-1)", "progress(12)", "progress(2147483647)");
    }
}
