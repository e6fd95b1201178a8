/** The edges of promises 1 to 8, sentence by sentence. */
public final class EdgeTraysTest {
    private static final Due due = new Due();
    /** Of each sort: the highest and the lowest number that it holds as it is. */
    private static final long[] HIGHEST = {127, 32767, 2147483647L, Long.MAX_VALUE};
    private static final long[] LOWEST = {-128, -32768, -2147483648L, Long.MIN_VALUE};

    public static void main(String[] args) {
        traysAre0To3();
        missingAtFirst();
        sortsAre0To3();
        rowsOf0To60();
        emptyTray();
        rowOf0s();
        writeChangesOnePlace();
        numbersAreCutToTheirSort();
        statusTellsNoneFromMinus1();
        pourFromAPlaceOn();
        pourToTheLastPlace();
        pourOfNone();
        pourOntoItself();
        pourOfUnlikeSorts();
        pourAsksInThisOrder();
        pourDoesNotWrapAround();
        statusOfTheLatestCall();
        due.end("EdgeTraysTest");
    }

    /** "TRAYS 0 to 3". */
    private static void traysAre0To3() {
        for (int tray : new int[] {Integer.MIN_VALUE, -1, 4, Integer.MAX_VALUE}) {
            HornBridge x = new HornBridge();
            due.no(x, "tray " + tray, x.tray(tray, 0, 1), 1);
            due.no(x, "write " + tray, x.write(tray, 0, 1), 1);
            due.none(x, "read " + tray, x.read(tray, 0), 1);
            x.tray(0, 0, 1);
            due.no(x, "pour from " + tray, x.pour(tray, 0, 0, 0, 1), 1);
            due.no(x, "pour to " + tray, x.pour(0, 0, tray, 0, 1), 1);
        }
        HornBridge x = new HornBridge();
        for (int tray = 0; tray < 4; tray++) {
            due.fine(x, "tray " + tray, x.tray(tray, 0, 1));
            due.fine(x, "write", x.write(tray, 0, tray + 5));
        }
        for (int tray = 0; tray < 4; tray++) {
            due.fine(x, "each has its own numbers", x.read(tray, 0), tray + 5);
        }
        for (int tray = 0; tray < 3; tray++) {
            due.fine(x, "pour", x.pour(tray, 0, tray + 1, 0, 1));
            due.fine(x, "poured", x.read(tray + 1, 0), 5);
        }
    }

    /** "MISSING at first". */
    private static void missingAtFirst() {
        for (int tray = 0; tray < 4; tray++) {
            HornBridge x = new HornBridge();
            due.none(x, "read", x.read(tray, 0), 2);
            due.none(x, "read of no place", x.read(tray, -1), 2);
            due.no(x, "write", x.write(tray, 0, 0), 2);
            due.no(x, "write to no place", x.write(tray, 60, 0), 2);
            due.no(x, "pour, both", x.pour(tray, 0, tray, 0, 0), 2);
            int other = (tray + 1) % 4;
            x.tray(other, 0, 1);
            due.no(x, "pour from it", x.pour(tray, 0, other, 0, 1), 2);
            due.no(x, "pour to it", x.pour(other, 0, tray, 0, 1), 2);
            due.no(x, "a refused tray()", x.tray(tray, 0, 61), 1);
            due.none(x, "is still missing", x.read(tray, 0), 2);
        }
    }

    /** "of 8 bits (sort 0), 16 (1), 32 (2) or 64 (3)". */
    private static void sortsAre0To3() {
        HornBridge x = new HornBridge();
        x.tray(0, 2, 3);
        x.write(0, 2, 1L << 20);
        for (int sort : new int[] {Integer.MIN_VALUE, -1, 4, Integer.MAX_VALUE}) {
            due.no(x, "sort " + sort, x.tray(0, sort, 1), 1);
            due.fine(x, "the old TRAY stays", x.read(0, 2), 1L << 20);
        }
        for (int sort = 0; sort < 4; sort++) {
            due.fine(x, "sort " + sort, x.tray(sort, sort, 1));
            due.fine(x, "write", x.write(sort, 0, Long.MAX_VALUE));
            due.fine(x, "read", x.read(sort, 0), sort < 3 ? -1 : Long.MAX_VALUE);
        }
    }

    /** "rows of 0 to 60 numbers". */
    private static void rowsOf0To60() {
        HornBridge x = new HornBridge();
        for (int many : new int[] {Integer.MIN_VALUE, -1, 61, Integer.MAX_VALUE}) {
            due.no(x, "a TRAY of " + many, x.tray(0, 0, many), 1);
            due.none(x, "no TRAY", x.read(0, 0), 2);
        }
        for (int many = 0; many <= 60; many++) {
            due.fine(x, "a TRAY of " + many, x.tray(0, many % 4, many));
            due.none(x, "ahead of the first", x.read(0, -1), 3);
            due.no(x, "ahead of the first", x.write(0, -1, 1), 3);
            if (many > 0) {
                due.fine(x, "to the last", x.write(0, many - 1, many));
                due.fine(x, "the last", x.read(0, many - 1), many);
            }
            due.none(x, "behind the last", x.read(0, many), 3);
            due.no(x, "behind the last", x.write(0, many, 1), 3);
        }
    }

    private static void emptyTray() {
        HornBridge x = new HornBridge();
        due.fine(x, "an empty TRAY", x.tray(1, 0, 0));
        due.none(x, "read", x.read(1, 0), 3);
        due.no(x, "write", x.write(1, 0, 0), 3);
        due.fine(x, "none of it, to itself", x.pour(1, 0, 1, 0, 0));
        due.no(x, "one of it", x.pour(1, 0, 1, 0, 1), 3);
        x.tray(0, 0, 1);
        x.write(0, 0, 9);
        due.no(x, "one to it", x.pour(0, 0, 1, 0, 1), 3);
        due.no(x, "one from it", x.pour(1, 0, 0, 0, 1), 3);
        due.fine(x, "is as it was", x.read(0, 0), 9);
    }

    /** "A TRAY is a row of so many 0s": whatever stood there. */
    private static void rowOf0s() {
        HornBridge x = new HornBridge();
        x.tray(0, 3, 60);
        for (int place = 0; place < 60; place++) {
            x.write(0, place, -1);
        }
        x.tray(0, 3, 1);
        due.fine(x, "a 0", x.read(0, 0), 0);
        due.none(x, "one alone", x.read(0, 1), 3);
        x.tray(0, 2, 60);
        for (int place = 0; place < 60; place++) {
            due.fine(x, "a 0 at " + place, x.read(0, place), 0);
        }
    }

    private static void writeChangesOnePlace() {
        HornBridge x = new HornBridge();
        x.tray(0, 3, 3);
        x.tray(1, 3, 3);
        due.fine(x, "write", x.write(0, 1, 7));
        row(x, 0, 0, 7, 0);
        row(x, 1, 0, 0, 0);
        due.fine(x, "write again", x.write(0, 1, 8));
        row(x, 0, 0, 8, 0);
    }

    /** "cut to its sort": what fits stays, one more begins anew at the other end. */
    private static void numbersAreCutToTheirSort() {
        for (int sort = 0; sort < 4; sort++) {
            HornBridge x = new HornBridge();
            x.tray(2, sort, 1);
            long[] stay = {0, 1, -1, HIGHEST[sort], HIGHEST[sort] - 1, LOWEST[sort], LOWEST[sort] + 1};
            for (long v : stay) {
                due.fine(x, "write", x.write(2, 0, v));
                due.fine(x, v + " of sort " + sort, x.read(2, 0), v);
            }
            x.write(2, 0, HIGHEST[sort] + 1);
            due.fine(x, "one above the highest", x.read(2, 0), LOWEST[sort]);
            x.write(2, 0, LOWEST[sort] - 1);
            due.fine(x, "one below the lowest", x.read(2, 0), HIGHEST[sort]);
            long all = HIGHEST[sort] * 2 + 2;
            x.write(2, 0, all);
            due.fine(x, "all bits and one", x.read(2, 0), 0);
            x.write(2, 0, all + 5);
            due.fine(x, "all bits and six", x.read(2, 0), 5);
        }
    }

    /** "STATUS tells NONE from -1". */
    private static void statusTellsNoneFromMinus1() {
        for (int sort = 0; sort < 4; sort++) {
            HornBridge x = new HornBridge();
            x.tray(0, sort, 1);
            x.write(0, 0, -1);
            due.fine(x, "-1 that stands there", x.read(0, 0), -1);
            due.none(x, "NONE", x.read(0, 1), 3);
        }
    }

    private static HornBridge filled(int sort) {
        HornBridge x = new HornBridge();
        x.tray(0, sort, 5);
        x.tray(1, sort, 4);
        for (int place = 0; place < 5; place++) {
            x.write(0, place, 11 + place);
        }
        return x;
    }

    private static void row(HornBridge x, int tray, long... want) {
        for (int place = 0; place < want.length; place++) {
            due.fine(x, "TRAY " + tray + " at " + place, x.read(tray, place), want[place]);
        }
        due.none(x, "behind them", x.read(tray, want.length), 3);
    }

    /** "So many numbers of a TRAY, from a place on": the last is the last of the row. */
    private static void pourFromAPlaceOn() {
        HornBridge x = filled(1);
        due.fine(x, "to the last number", x.pour(0, 2, 1, 0, 3));
        row(x, 1, 13, 14, 15, 0);
        row(x, 0, 11, 12, 13, 14, 15);
        due.no(x, "one number too few", x.pour(0, 3, 1, 0, 3), 3);
        due.no(x, "from behind the last", x.pour(0, 5, 1, 0, 1), 3);
        due.no(x, "one more than there are", x.pour(0, 0, 0, 0, 6), 3);
        due.fine(x, "all that there are", x.pour(0, 0, 0, 0, 5));
        row(x, 1, 13, 14, 15, 0);
    }

    /** "come to another one's place on": the last comes to the last place. */
    private static void pourToTheLastPlace() {
        HornBridge x = filled(3);
        due.fine(x, "to the last place", x.pour(0, 0, 1, 2, 2));
        row(x, 1, 0, 0, 11, 12);
        due.no(x, "one place too few", x.pour(0, 0, 1, 3, 2), 3);
        due.no(x, "to behind the last", x.pour(0, 0, 1, 4, 1), 3);
        due.no(x, "more than it takes", x.pour(0, 0, 1, 0, 5), 3);
        row(x, 1, 0, 0, 11, 12);
        due.fine(x, "as many as it takes", x.pour(0, 1, 1, 0, 4));
        row(x, 1, 12, 13, 14, 15);
    }

    private static void pourOfNone() {
        HornBridge x = filled(0);
        due.fine(x, "none from the first", x.pour(0, 0, 1, 0, 0));
        due.fine(x, "none from just behind the last", x.pour(0, 5, 1, 4, 0));
        due.no(x, "none from one further", x.pour(0, 6, 1, 0, 0), 3);
        due.no(x, "none to one further", x.pour(0, 0, 1, 5, 0), 3);
        row(x, 0, 11, 12, 13, 14, 15);
        row(x, 1, 0, 0, 0, 0);
    }

    /** "or its own", "as they were". */
    private static void pourOntoItself() {
        for (int from = 0; from < 5; from++) {
            for (int at = 0; at < 5; at++) {
                for (int many = 0; many <= 5 - Math.max(from, at); many++) {
                    HornBridge x = filled(2);
                    due.fine(x, "onto itself", x.pour(0, from, 0, at, many));
                    long[] want = {11, 12, 13, 14, 15};
                    for (int i = 0; i < many; i++) {
                        want[at + i] = 11 + from + i;
                    }
                    row(x, 0, want);
                }
            }
        }
    }

    private static void pourOfUnlikeSorts() {
        for (int sort = 0; sort < 4; sort++) {
            for (int other = 0; other < 4; other++) {
                HornBridge x = new HornBridge();
                x.tray(0, sort, 1);
                x.tray(1, other, 1);
                x.write(0, 0, 6);
                due.is("sorts " + sort + " and " + other, x.pour(0, 0, 1, 0, 1), sort == other);
                due.is("STATUS", x.status(), sort == other ? 0 : 8);
                due.fine(x, "poured or not", x.read(1, 0), sort == other ? 6 : 0);
            }
        }
    }

    /** "1: below 0, too; 2; 8; 3; asked in this order". */
    private static void pourAsksInThisOrder() {
        HornBridge x = new HornBridge();
        x.tray(0, 0, 1);
        x.tray(1, 1, 1);
        due.no(x, "no TRAY, and one is missing", x.pour(4, 9, 3, 9, 9), 1);
        due.no(x, "no TRAY, and one is missing", x.pour(3, 9, 4, 9, 9), 1);
        due.no(x, "a place below 0, and missing", x.pour(0, -1, 3, 9, 9), 1);
        due.no(x, "at below 0, and missing", x.pour(3, 9, 0, -1, 9), 1);
        due.no(x, "many below 0, and missing", x.pour(3, 9, 0, 9, -1), 1);
        due.no(x, "below 0 and unlike", x.pour(0, -1, 1, 0, 1), 1);
        due.no(x, "below 0 and too few", x.pour(0, 9, 0, 9, -1), 1);
        due.no(x, "missing, and a place that it has not", x.pour(0, 9, 3, 9, 9), 2);
        due.no(x, "missing, and a place that it has not", x.pour(3, 9, 0, 9, 9), 2);
        due.no(x, "unlike, and a place that it has not", x.pour(0, 9, 1, 9, 9), 8);
        due.no(x, "a place that it has not", x.pour(0, 9, 0, 0, 1), 3);
    }

    private static void pourDoesNotWrapAround() {
        HornBridge x = filled(0);
        int most = Integer.MAX_VALUE;
        due.no(x, "place and many", x.pour(0, most, 1, 0, most), 3);
        due.no(x, "at and many", x.pour(0, 0, 1, most, most), 3);
        due.no(x, "many", x.pour(0, 1, 1, 1, most), 3);
        due.no(x, "place", x.pour(0, most, 1, 0, 1), 3);
        due.no(x, "at", x.pour(0, 0, 1, most, 1), 3);
        due.no(x, "place and none", x.pour(0, most, 1, 0, 0), 3);
        due.no(x, "the least", x.pour(0, Integer.MIN_VALUE, 1, 0, 1), 1);
        row(x, 0, 11, 12, 13, 14, 15);
        row(x, 1, 0, 0, 0, 0);
    }

    /** "STATUS of the latest call that has one"; "status(), top(), bottom(), feed(), fault() have none". */
    private static void statusOfTheLatestCall() {
        HornBridge x = new HornBridge();
        due.is("at first", x.status(), 0);
        due.is("top at first", x.top(), 0);
        due.is("bottom at first", x.bottom(), 1);
        int[] statuses = {1, 2, 3, 8, 6, 9};
        for (int status : statuses) {
            bring(x, status);
            due.is("STATUS " + status, x.status(), status);
            x.top();
            x.bottom();
            x.fault(0);
            x.fault(-1);
            x.feed(0, 0, 0, 0, 0);
            due.is("is still " + status, x.status(), status);
            x.silent();
            due.is("behind a fine call", x.status(), 0);
        }
    }

    private static void bring(HornBridge x, int status) {
        x.tray(0, 0, 1);
        x.tray(1, 1, 1);
        switch (status) {
            case 1: x.told(-1); break;
            case 2: x.read(2, 0); break;
            case 3: x.read(0, 1); break;
            case 8: x.pour(0, 0, 1, 0, 1); break;
            case 6: x.back(); break;
            default: x.river(20); break;
        }
    }
}
