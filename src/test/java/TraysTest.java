/** Promises 5 to 8: tray, write, read, pour. */
final class TraysTest {
    private static final Check CHECK = new Check();

    public static void main(String[] args) {
        traysAreMade();
        numbersAreCut();
        placesAreLookedAt();
        numbersArePoured();
        pourAsksInItsOrder();
        CHECK.end("TraysTest");
    }

    private static void traysAreMade() {
        TalkChutes x = new TalkChutes();
        CHECK.refused("tray -1", x, x.tray(-1, 0, 1), 1);
        CHECK.refused("tray 4", x, x.tray(4, 0, 1), 1);
        CHECK.refused("sort -1", x, x.tray(0, -1, 1), 1);
        CHECK.refused("sort 4", x, x.tray(0, 4, 1), 1);
        CHECK.refused("sort 4 ahead of 61", x, x.tray(0, 4, 61), 1);
        CHECK.refused("61", x, x.tray(0, 0, 61), 5);
        CHECK.refused("-1", x, x.tray(0, 0, -1), 6);
        CHECK.refused("least int", x, x.tray(0, 0, Integer.MIN_VALUE), 6);
        CHECK.refused("still missing", x, x.read(0, 0), 3);
        CHECK.due("tray(0, 0, 60)", x.tray(0, 0, 60), true);
        CHECK.due("status", x.status(), 0);
        CHECK.given("read(0, 59)", x, x.read(0, 59), 0);
        CHECK.due("write", x.write(0, 59, 7), true);
        CHECK.due("tray anew", x.tray(0, 3, 60), true);
        CHECK.given("all 0", x, x.read(0, 59), 0);
        CHECK.refused("not made anew", x, x.tray(0, 3, 61), 5);
        CHECK.given("as it was", x, x.read(0, 59), 0);
        CHECK.due("tray(0, 3, 0)", x.tray(0, 3, 0), true);
        CHECK.refused("no place", x, x.read(0, 0), 4);
    }

    private static void numbersAreCut() {
        TalkChutes x = new TalkChutes();
        long v = 0x123456789ABCDEF0L;
        long[] due = {(byte) v, (short) v, (int) v, v};
        for (int sort = 0; sort < 4; sort++) {
            x.tray(sort, sort, 2);
            CHECK.due("write", x.write(sort, 1, v), true);
            CHECK.given("read, sort " + sort, x, x.read(sort, 1), due[sort]);
            x.write(sort, 0, -1);
            CHECK.given("read -1", x, x.read(sort, 0), -1);
            CHECK.given("the other stays", x, x.read(sort, 1), due[sort]);
        }
        x.write(0, 0, 128);
        CHECK.given("128 by 8 bits", x, x.read(0, 0), -128);
        x.write(1, 0, 32768);
        CHECK.given("32768 by 16 bits", x, x.read(1, 0), -32768);
        x.write(2, 0, 1L << 31);
        CHECK.given("2 to the 31st by 32 bits", x, x.read(2, 0), Integer.MIN_VALUE);
    }

    private static void placesAreLookedAt() {
        TalkChutes x = new TalkChutes();
        x.tray(1, 2, 3);
        CHECK.refused("write tray -1", x, x.write(-1, 0, 1), 1);
        CHECK.refused("write tray 4", x, x.write(4, 0, 1), 1);
        CHECK.refused("write missing", x, x.write(0, 0, 1), 3);
        CHECK.refused("write -1", x, x.write(1, -1, 1), 4);
        CHECK.refused("write 3", x, x.write(1, 3, 1), 4);
        CHECK.refused("write far", x, x.write(1, Integer.MAX_VALUE, 1), 4);
        CHECK.refused("read tray -1", x, x.read(-1, 0), 1);
        CHECK.refused("read tray 4", x, x.read(4, 0), 1);
        CHECK.refused("read missing", x, x.read(0, 0), 3);
        CHECK.refused("read -1", x, x.read(1, -1), 4);
        CHECK.refused("read 3", x, x.read(1, 3), 4);
        CHECK.refused("read least", x, x.read(1, Integer.MIN_VALUE), 4);
        CHECK.given("read 2", x, x.read(1, 2), 0);
    }

    private static TalkChutes counted() {
        TalkChutes x = new TalkChutes();
        x.tray(0, 1, 6);
        for (int i = 0; i < 6; i++) {
            x.write(0, i, i + 1);
        }
        x.tray(1, 1, 4);
        x.tray(2, 2, 6);
        return x;
    }

    private static void row(TalkChutes x, int tray, long... due) {
        for (int i = 0; i < due.length; i++) {
            CHECK.given("place " + i, x, x.read(tray, i), due[i]);
        }
    }

    private static void numbersArePoured() {
        TalkChutes x = counted();
        CHECK.due("pour", x.pour(0, 2, 1, 1, 3), true);
        row(x, 1, 0, 3, 4, 5);
        row(x, 0, 1, 2, 3, 4, 5, 6);
        CHECK.due("up in itself", x.pour(0, 0, 0, 1, 5), true);
        row(x, 0, 1, 1, 2, 3, 4, 5);
        CHECK.due("down in itself", x.pour(0, 2, 0, 0, 4), true);
        row(x, 0, 2, 3, 4, 5, 4, 5);
        CHECK.due("none, at the ends", x.pour(0, 6, 1, 4, 0), true);
        CHECK.due("all", x.pour(1, 0, 0, 2, 4), true);
        row(x, 0, 2, 3, 0, 3, 4, 5);
    }

    private static void pourAsksInItsOrder() {
        TalkChutes x = counted();
        CHECK.refused("first tray", x, x.pour(4, 0, 3, 0, -1), 1);
        CHECK.refused("second tray", x, x.pour(3, 0, -1, 0, -1), 1);
        CHECK.refused("first missing", x, x.pour(3, 0, 0, 0, -1), 3);
        CHECK.refused("second missing", x, x.pour(0, 0, 3, 0, -1), 3);
        CHECK.refused("sorts ahead of below 0", x, x.pour(0, 0, 2, 0, -1), 11);
        CHECK.refused("sorts ahead of places", x, x.pour(0, 9, 2, 0, 1), 11);
        CHECK.refused("below 0 ahead of places", x, x.pour(0, 9, 1, 0, -1), 6);
        CHECK.refused("from -1", x, x.pour(0, -1, 1, 0, 1), 4);
        CHECK.refused("to -1", x, x.pour(0, 0, 1, -1, 1), 4);
        CHECK.refused("too few there", x, x.pour(0, 3, 1, 0, 4), 4);
        CHECK.refused("too few places", x, x.pour(0, 0, 1, 2, 3), 4);
        CHECK.refused("far", x, x.pour(0, 1, 1, 0, Integer.MAX_VALUE), 4);
        CHECK.refused("far on", x, x.pour(0, Integer.MAX_VALUE, 1, 0, 1), 4);
        CHECK.refused("far to", x, x.pour(0, 0, 1, Integer.MAX_VALUE, 1), 4);
        row(x, 0, 1, 2, 3, 4, 5, 6);
        row(x, 1, 0, 0, 0, 0);
    }
}
