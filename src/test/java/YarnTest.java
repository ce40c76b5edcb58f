/** Promises 14 to 16: lot, swap, left. */
public final class YarnTest {
    public static void main(String[] args) {
        lot();
        lotOrder();
        swap();
        swapRefused();
        left();
        Site.end();
    }

    private static void lot() {
        Site site = new Site("promise 14");
        site.due(0, "lot(0, 5, 1)").due(1, "lot(4, 20, 100000)").due(1, "left(0)").due(100000, "left(1)");
        site.noSuch("lot(-1, 5, 1)", "lot(5, 5, 1)", "lot(2147483647, 5, 1)");
        site.outOfRange("lot(0, 4, 1)", "lot(0, 21, 1)", "lot(0, 5, 0)", "lot(0, 5, 100001)", "lot(0, 5, -1)");
        site.outOfRange("lot(0, -2147483648, 1)", "lot(0, 5, -2147483648)", "lot(0, 5, 2147483647)", "lot(0, 2147483647, 1)");
        site.noSuch("left(2)");
        for (int number = 2; number < 20; number++) {
            site.due(number, "lot(3, 10, " + number + ")");
        }
        site.refused("lot(0, 5, 1)").noSuch("left(20)").due(19, "left(19)");
    }

    private static void lotOrder() {
        Site site = new Site("promise 14, order");
        site.noSuch("lot(5, 4, 1)", "lot(-1, 5, 0)");
        for (int number = 0; number < 20; number++) {
            site.due(number, "lot(0, 5, 1)");
        }
        site.noSuch("lot(5, 5, 1)", "lot(5, 4, 0)").outOfRange("lot(0, 4, 1)", "lot(0, 5, 0)").refused("lot(0, 5, 1)");
    }

    private static void swap() {
        Site site = new Site("promise 15");
        site.due(0, "lot(0, 5, 10)").due(1, "lot(3, 6, 20)").due(2, "lot(4, 7, 30)").due(3, "lot(0, 8, 40)");
        site.due(3, "swap(0, 1)").refused("swap(1, 3)", "swap(3, 1)").due(0, "swap(2, 1)").due(3, "swap(1, 0)");
        // Now 0 is person 4's, 1 is 3's, 2 is 0's and 3 is 0's; the yarn stays with its lot.
        site.due(10, "left(0)").due(20, "left(1)").due(30, "left(2)").due(40, "left(3)").refused("swap(2, 3)");
        site.due(0, "swap(1, 3)").due(0, "swap(0, 2)").refused("swap(0, 1)").due(4, "swap(1, 2)").refused("swap(0, 2)");
    }

    private static void swapRefused() {
        Site site = new Site("promise 15, wrong inputs");
        site.noSuch("swap(0, 0)").due(0, "lot(1, 5, 10)").due(1, "lot(1, 6, 20)").due(2, "lot(2, 6, 20)");
        site.refused("swap(0, 0)", "swap(0, 1)", "swap(1, 0)", "swap(2, 2)");
        site.noSuch("swap(0, 3)", "swap(3, 0)", "swap(-1, 0)", "swap(0, -1)", "swap(3, 3)", "swap(-1, 2147483647)");
        site.due(2, "swap(0, 2)").refused("swap(1, 2)").due(1, "swap(0, 1)");
    }

    private static void left() {
        Site site = new Site("promise 16");
        site.noSuch("left(0)").due(0, "lot(1, 10, 75)").due(75, "left(0)");
        site.noSuch("left(1)", "left(-1)", "left(20)", "left(2147483647)", "left(-2147483648)");
        // Rows of KP: 5 a row, 50 at gauge 10.
        site.due(0, "begin(1, 2, 0)").due(3, "line(0, 1, 1, 0, 3)").due(0, "publish(0)").due(0, "project(1, 0, 0)");
        site.due(75, "left(0)").due(1, "knit(0, 3)").due(25, "left(0)").due(0, "knit(0, 3)").due(25, "left(0)");
    }
}
