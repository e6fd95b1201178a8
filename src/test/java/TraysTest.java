/** Promises 1 to 8. */
public final class TraysTest {
    private static final Due due = new Due();

    public static void main(String[] args) {
        newObject();
        statusFollowsCalls();
        trays();
        numbersAreCut();
        pours();
        due.end("TraysTest");
    }

    private static void newObject() {
        HornBridge x = new HornBridge();
        due.is("status()", x.status(), 0);
        due.fraction(x, "new", 0, 1);
        due.is("fault(0)", x.fault(0), -1);
        due.is("fault(1)", x.fault(1), -1);
        int[] told = {0, 0, 0, 0, 5, 0, 0, 0};
        for (int what = 0; what < told.length; what++) {
            due.fine(x, "told(" + what + ")", x.told(what), told[what]);
        }
        for (int tray = 0; tray < 4; tray++) {
            due.none(x, "read", x.read(tray, 0), 2);
        }
        due.none(x, "river(1)", x.river(1), 1);
        due.none(x, "keep(0)", x.keep(0), 6);
        due.none(x, "back()", x.back(), 6);
        due.none(x, "kept(0)", x.kept(0), 6);
        due.none(x, "codeAt(0)", x.codeAt(0), 6);
        due.none(x, "reading(0, 0)", x.reading(0, 0), 6);
        due.none(x, "planAt(0, 0)", x.planAt(0, 0), 6);
        due.is("NONE", HornBridge.NONE, -1);
    }

    private static void statusFollowsCalls() {
        HornBridge x = new HornBridge();
        x.told(8);
        due.is("status()", x.status(), 1);
        due.is("status() again", x.status(), 1);
        x.top();
        x.bottom();
        x.feed(0, 0, 0, 0, 0);
        x.fault(0);
        due.is("status() behind calls without one", x.status(), 1);
        x.told(0);
        due.is("status() behind a fine call", x.status(), 0);
        for (int i = 0; i < 44; i++) {
            x.feed(0, 0, 0, 0, 0);
        }
        x.told(8);
        due.is("feed too much", x.feed(0, 0, 0, 0, 0), -1);
        due.is("status() behind a feed too much", x.status(), 1);
    }

    private static void trays() {
        HornBridge x = new HornBridge();
        due.no(x, "tray(-1)", x.tray(-1, 0, 1), 1);
        due.no(x, "tray(4)", x.tray(4, 0, 1), 1);
        due.no(x, "sort -1", x.tray(0, -1, 1), 1);
        due.no(x, "sort 4", x.tray(0, 4, 1), 1);
        due.no(x, "many -1", x.tray(0, 0, -1), 1);
        due.no(x, "many 61", x.tray(0, 0, 61), 1);
        due.none(x, "still missing", x.read(0, 0), 2);
        due.fine(x, "tray", x.tray(0, 0, 60));
        due.fine(x, "read(0, 59)", x.read(0, 59), 0);
        due.none(x, "read(0, 60)", x.read(0, 60), 3);
        due.none(x, "read(0, -1)", x.read(0, -1), 3);
        due.none(x, "read(0, least)", x.read(0, Integer.MIN_VALUE), 3);
        due.none(x, "read(0, most)", x.read(0, Integer.MAX_VALUE), 3);
        due.none(x, "read(4, 0)", x.read(4, 0), 1);
        due.none(x, "read(-1, 0)", x.read(-1, 0), 1);
        due.no(x, "write missing", x.write(1, -1, 5), 2);
        due.no(x, "write(9)", x.write(9, 0, 5), 1);
        due.no(x, "write place", x.write(0, 60, 5), 3);
        due.no(x, "write place", x.write(0, -1, 5), 3);
        due.fine(x, "write", x.write(0, 59, 5));
        due.fine(x, "read back", x.read(0, 59), 5);
        due.fine(x, "tray anew", x.tray(0, 3, 60));
        due.fine(x, "read anew", x.read(0, 59), 0);
        due.fine(x, "empty tray", x.tray(0, 3, 0));
        due.none(x, "read of an empty one", x.read(0, 0), 3);
    }

    private static void numbersAreCut() {
        HornBridge x = new HornBridge();
        long v = 0x1234_5678_9abc_def0L;
        long[] cut = {(byte) v, (short) v, (int) v, v};
        for (int sort = 0; sort < 4; sort++) {
            x.tray(sort, sort, 2);
            due.fine(x, "write", x.write(sort, 1, v));
            due.fine(x, "read sort " + sort, x.read(sort, 1), cut[sort]);
            due.fine(x, "write", x.write(sort, 0, -1));
            due.fine(x, "read -1 of sort " + sort, x.read(sort, 0), -1);
        }
        x.write(0, 0, 128);
        due.fine(x, "128 in 8 bits", x.read(0, 0), -128);
        x.write(0, 0, 127);
        due.fine(x, "127 in 8 bits", x.read(0, 0), 127);
        x.write(1, 0, 32768);
        due.fine(x, "32768 in 16 bits", x.read(1, 0), -32768);
        x.write(2, 0, 1L << 31);
        due.fine(x, "1 << 31 in 32 bits", x.read(2, 0), Integer.MIN_VALUE);
    }

    private static void pours() {
        HornBridge x = new HornBridge();
        due.no(x, "pour missing", x.pour(0, 0, 1, 0, 0), 2);
        x.tray(0, 1, 5);
        due.no(x, "pour to a missing one", x.pour(0, 0, 1, 0, 0), 2);
        due.no(x, "pour from a missing one", x.pour(1, 0, 0, 0, 0), 2);
        due.no(x, "pour(-1)", x.pour(-1, 0, 1, 0, 0), 1);
        due.no(x, "pour to 4", x.pour(0, 0, 4, 0, 0), 1);
        due.no(x, "place below 0", x.pour(0, -1, 1, 0, 0), 1);
        due.no(x, "at below 0", x.pour(0, 0, 1, -1, 0), 1);
        due.no(x, "many below 0", x.pour(0, 0, 1, 0, -1), 1);
        x.tray(1, 2, 5);
        due.no(x, "unlike, and too few", x.pour(0, 0, 1, 0, 9), 8);
        x.tray(1, 1, 3);
        for (int i = 0; i < 5; i++) {
            x.write(0, i, i + 1);
        }
        due.no(x, "too few to give", x.pour(0, 3, 1, 0, 3), 3);
        due.no(x, "too few to take", x.pour(0, 0, 1, 1, 3), 3);
        due.no(x, "a wrap", x.pour(0, Integer.MAX_VALUE, 1, 0, Integer.MAX_VALUE), 3);
        due.no(x, "a wrap", x.pour(0, 1, 1, 0, Integer.MAX_VALUE), 3);
        due.no(x, "a place behind all, none poured", x.pour(0, 6, 1, 0, 0), 3);
        due.fine(x, "none poured", x.pour(0, 5, 1, 3, 0));
        due.fine(x, "pour", x.pour(0, 2, 1, 1, 2));
        row(x, 1, 0, 3, 4);
        due.fine(x, "onto itself, up", x.pour(0, 0, 0, 1, 4));
        row(x, 0, 1, 1, 2, 3, 4);
        due.fine(x, "onto itself, down", x.pour(0, 2, 0, 0, 3));
        row(x, 0, 2, 3, 4, 3, 4);
    }

    private static void row(HornBridge x, int tray, int... want) {
        for (int i = 0; i < want.length; i++) {
            due.fine(x, "tray " + tray + " place " + i, x.read(tray, i), want[i]);
        }
        due.none(x, "behind the row", x.read(tray, want.length), 3);
    }
}
