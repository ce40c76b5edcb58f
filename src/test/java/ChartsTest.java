/** Promises 8 and 9: stitch and stitchByWork; both must give the stitches that are written out here. */
public final class ChartsTest {
    private static final String[] WAYS = {"stitch", "stitchByWork"};

    public static void main(String[] args) {
        for (String way : WAYS) {
            turns(way);
            shaping(way);
            narrowest(way);
            widest(way);
            widthsStopAtTheirBounds(way);
            wrong(way);
        }
        Site.end();
    }

    private static void rowIs(Site site, String way, int row, String stitches) {
        for (int place = 0; place < stitches.length(); place++) {
            int due = stitches.charAt(place) == 'K' ? Yarncourt.KNIT : Yarncourt.PURL;
            site.due(due, way + "(0, " + row + ", " + place + ")");
        }
        site.due(Yarncourt.NOTHING, way + "(0, " + row + ", " + stitches.length() + ")");
    }

    private static void turns(String way) {
        Site site = new Site(way + ", turns");
        site.due(0, "begin(0, 14, 0)").due(2, "line(0, 2, 3, 0, 2)").due(3, "line(0, 9, 9, 0, 1)");
        site.due(4, "line(0, 4, 0, 0, 1)").due(5, "line(0, 0, 1, 0, 1)").due(6, "line(0, 1, 1, 0, 1)");
        rowIs(site, way, 0, "KKPPPKKPPPKKPP");
        rowIs(site, way, 1, "KKPPPKKPPPKKPP");
        rowIs(site, way, 2, "KKKKKKKKKPPPPP");
        rowIs(site, way, 3, "KKKKKKKKKKKKKK");
        rowIs(site, way, 4, "PPPPPPPPPPPPPP");
        rowIs(site, way, 5, "KPKPKPKPKPKPKP");
    }

    private static void shaping(String way) {
        Site site = new Site(way + ", shaping");
        site.due(0, "begin(0, 4, 0)").due(2, "line(0, 1, 2, 2, 2)").due(4, "line(0, 2, 1, -3, 2)");
        site.due(5, "line(0, 0, 1, 3, 1)").due(6, "line(0, 1, 1, 0, 1)");
        // A row's width comes of the line of the row before it.
        rowIs(site, way, 0, "KPPK");
        rowIs(site, way, 1, "KPPKPP");
        rowIs(site, way, 2, "KKPKKPKK");
        rowIs(site, way, 3, "KKPKK");
        rowIs(site, way, 4, "PP");
        rowIs(site, way, 5, "KPKPK");
    }

    private static void narrowest(String way) {
        Site site = new Site(way + ", never narrower than 1");
        site.due(0, "begin(0, 2, 0)").due(4, "line(0, 1, 1, -3, 4)").due(6, "line(0, 0, 2, 2, 2)").due(7, "line(0, 3, 1, 0, 1)");
        rowIs(site, way, 0, "KP");
        rowIs(site, way, 1, "K");
        rowIs(site, way, 2, "K");
        rowIs(site, way, 3, "K");
        rowIs(site, way, 4, "P");
        rowIs(site, way, 5, "PPP");
        rowIs(site, way, 6, "KKKPK");
    }

    private static void widest(String way) {
        Site site = new Site(way + ", never wider than 40");
        site.due(0, "begin(0, 20, 0)").due(6, "line(0, 1, 0, 3, 6)").due(9, "line(0, 8, 5, 3, 3)").due(10, "line(0, 0, 1, -3, 1)");
        site.due(11, "line(0, 7, 6, 0, 1)");
        rowIs(site, way, 5, "KKKKKKKKKKKKKKKKKKKKKKKKKKKKKKKKKKK");
        rowIs(site, way, 6, "KKKKKKKKPPPPPKKKKKKKKPPPPPKKKKKKKKPPPP");
        rowIs(site, way, 7, "KKKKKKKKPPPPPKKKKKKKKPPPPPKKKKKKKKPPPPPK");
        rowIs(site, way, 8, "KKKKKKKKPPPPPKKKKKKKKPPPPPKKKKKKKKPPPPPK");
        rowIs(site, way, 9, "PPPPPPPPPPPPPPPPPPPPPPPPPPPPPPPPPPPPPPPP");
        rowIs(site, way, 10, "KKKKKKKPPPPPPKKKKKKKPPPPPPKKKKKKKPPPP");
        site.due(0, way + "(0, 8, 41)").due(0, way + "(0, 8, 1599)").due(0, way + "(0, 0, 2147483647)");
        site.due(0, way + "(0, 0, 40)").due(0, way + "(0, 0, 80)");
    }

    /** The bounds hold row by row, and not only for the sum of all shapings. */
    private static void widthsStopAtTheirBounds(String way) {
        Site site = new Site(way + ", bounds row by row");
        site.due(0, "begin(0, 20, 0)").due(20, "line(0, 1, 1, 3, 20)").due(30, "line(0, 0, 1, -3, 10)").due(40, "line(0, 1, 0, -3, 10)");
        site.due(2, way + "(0, 20, 39)").due(0, way + "(0, 20, 40)");
        site.due(2, way + "(0, 29, 12)").due(0, way + "(0, 29, 13)").due(1, way + "(0, 30, 9)").due(0, way + "(0, 30, 10)");
        site.due(1, way + "(0, 33, 0)").due(0, way + "(0, 33, 1)").due(1, way + "(0, 39, 0)").due(0, way + "(0, 39, 1)");
    }

    private static void wrong(String way) {
        Site site = new Site(way + ", wrong inputs");
        site.noSuch(way + "(0, 0, 0)").due(0, "begin(0, 4, 0)").noSuch(way + "(0, 0, 0)").due(2, "line(0, 1, 1, 0, 2)");
        site.due(1, way + "(0, 1, 0)").noSuch(way + "(0, 2, 0)", way + "(0, -1, 0)", way + "(0, 2147483647, 0)");
        site.noSuch(way + "(0, -2147483648, 0)", way + "(0, 40, 0)", way + "(0, 39, 0)");
        site.noSuch(way + "(0, 0, -1)", way + "(0, 1, -1)", way + "(0, 1, -2147483648)");
        site.noSuch(way + "(1, 0, 0)", way + "(-1, 0, 0)", way + "(16, 0, 0)", way + "(2147483647, 0, 0)");
        site.due(2, way + "(0, 1, 3)").due(0, way + "(0, 1, 4)").due(0, way + "(0, 1, 2147483647)");
    }
}
