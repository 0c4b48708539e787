/** Promises 27 to 33: seen, bore, film, sheet, drop, item, copy. */
public final class Sheets {
    private static final Due DUE = new Due();

    public static void main(String[] args) {
        sheets();
        items();
        copies();
        copiesRefused();
        seenRows();
        seenRefused();
        boreRows();
        boreRefused();
        films();
        filmsRefused();
        DUE.end();
    }

    private static void sheets() {
        DeedTortoise x = new DeedTortoise();
        DUE.is("drop nothing", x.drop(0), -11);
        DUE.is("sheet(0, 3, 24)", x.sheet(0, 3, 24), 24);
        DUE.is("sheet(1, 0, 0)", x.sheet(1, 0, 0), 0);
        DUE.is("SIZE", x.sheet(0, 3, -1), -14);
        DUE.is("SIZE", x.sheet(0, 3, Integer.MIN_VALUE), -14);
        DUE.bad("sheet", x.sheet(-1, 0, 0), x.sheet(4, 0, 0), x.sheet(0, -1, 0), x.sheet(0, 4, 0),
            x.sheet(0, 0, 25), x.sheet(4, 0, -1), x.sheet(0, 4, -1), x.sheet(0, 0, Integer.MAX_VALUE));
        DUE.is("drop 24", x.drop(0), 24);
        DUE.is("drop again", x.drop(0), -11);
        DUE.is("drop of none", x.drop(1), 0);
        DUE.bad("drop", x.drop(-1), x.drop(4));
        Due.row(x, 2, 2, 3, 3, 3);
        DUE.is("a new row instead", x.sheet(2, 2, 2), 2);
        DUE.is("seen by the new row: all 0", x.seen(2, 2, 0, 2, 0), 1);
        DUE.is("seen by the new row: all 0", x.seen(2, 2, 0, 2, 1), 4);
        DUE.is("its lane", x.item(2, 1, 0, 0), -12);
        DUE.is("drop 2", x.drop(2), 2);
    }

    /** What an item is shows by the fields seen. */
    private static void items() {
        long[] over = {256, 65536, 4294967296L};
        for (int lane = 0; lane < 4; lane++) {
            DeedTortoise x = new DeedTortoise();
            x.sheet(0, lane, 2);
            for (int k = 0; k < 3; k++) {
                DUE.is("item", x.item(0, lane, 1, over[k] + 1), 1);
                boolean isCut = lane <= k;
                DUE.is("lane " + lane + ", lowest bits of " + over[k] + " and 1", x.seen(0, lane, 1, 1, 1), isCut ? 2 : 1);
            }
            for (long v : new long[] {7, -1, 127, -128, Long.MIN_VALUE + 7}) {
                x.item(0, lane, 1, v);
                DUE.is("lane " + lane + ", no such field: " + v, x.seen(0, lane, 1, 1, 0), 0);
            }
            if (lane < 3) {
                x.item(0, lane, 1, over[lane] / 2);
                DUE.is("lane " + lane + ", the sign", x.seen(0, lane, 1, 1, 0), 0);
            }
            DUE.is("INDEX", x.item(0, lane, 2, 1), -13);
            DUE.is("INDEX", x.item(0, lane, -1, 1), -13);
            DUE.is("INDEX", x.item(0, lane, Integer.MAX_VALUE, 1), -13);
            DUE.is("INDEX", x.item(0, lane, Integer.MIN_VALUE, 1), -13);
            DUE.is("CAST ahead of INDEX", x.item(0, (lane + 1) % 4, 2, 1), -12);
            DUE.is("NULL ahead of INDEX", x.item(1, lane, 2, 1), -11);
            DUE.bad("item", x.item(-1, lane, 0, 0), x.item(4, lane, 0, 0), x.item(0, -1, 0, 0),
                x.item(0, 4, 0, 0), x.item(1, 4, 0, 0));
        }
    }

    /** A row's items one by one, by which of seven fields the tortoise could be seen on after one day. */
    private static void items(String what, DeedTortoise x, int sheet, int lane, int... want) {
        for (int k = 0; k < want.length; k++) {
            int from = want[k] == 0 ? 1 : 3 << (want[k] - 1);
            DUE.is(what + ", item " + k, x.seen(sheet, lane, k, 1, 2), from);
        }
    }

    private static void copies() {
        DeedTortoise x = new DeedTortoise();
        Due.row(x, 0, 1, 0, 1, 2, 3, 4, 5, 6);
        x.sheet(1, 1, 3);
        items("the row", x, 0, 1, 0, 1, 2, 3, 4, 5, 6);
        DUE.is("to another one", x.copy(0, 4, 1, 1, 2), 2);
        items("another one", x, 1, 1, 0, 4, 5);
        DUE.is("on, as if taken ahead", x.copy(0, 0, 0, 2, 5), 5);
        items("on", x, 0, 1, 0, 1, 0, 1, 2, 3, 4);
        DUE.is("back, as if taken ahead", x.copy(0, 3, 0, 1, 4), 4);
        items("back", x, 0, 1, 0, 1, 2, 3, 4, 3, 4);
        DUE.is("to itself", x.copy(0, 0, 0, 0, 7), 7);
        items("itself", x, 0, 1, 0, 1, 2, 3, 4, 3, 4);
        Due.row(x, 2, 3, Long.MIN_VALUE, 6);
        Due.row(x, 3, 3, 0);
        DUE.is("longs", x.copy(2, 1, 3, 0, 1), 1);
        items("longs", x, 3, 3, 6);
    }

    private static void copiesRefused() {
        DeedTortoise x = new DeedTortoise();
        x.sheet(0, 2, 4);
        x.sheet(1, 2, 2);
        x.sheet(2, 3, 2);
        DUE.is("no item", x.copy(0, 4, 1, 2, 0), 0);
        DUE.is("no item, i above", x.copy(0, 5, 1, 0, 0), -13);
        DUE.is("no item, j above", x.copy(0, 0, 1, 3, 0), -13);
        DUE.is("no item, i below", x.copy(0, -1, 1, 0, 0), -13);
        DUE.is("no item, j below", x.copy(0, 0, 1, -1, 0), -13);
        DUE.is("n below 0", x.copy(0, 1, 1, 1, -1), -13);
        DUE.is("n far below 0", x.copy(0, 0, 1, 0, Integer.MIN_VALUE), -13);
        DUE.is("n too many here", x.copy(0, 2, 1, 0, 3), -13);
        DUE.is("n too many there", x.copy(0, 0, 1, 0, 3), -13);
        DUE.is("n far too many", x.copy(0, 1, 1, 1, Integer.MAX_VALUE), -13);
        DUE.is("i far above", x.copy(0, Integer.MAX_VALUE, 1, 0, 1), -13);
        DUE.is("CAST", x.copy(0, 0, 2, 0, 1), -12);
        DUE.is("CAST ahead of INDEX", x.copy(0, -1, 2, 0, 1), -12);
        DUE.is("NULL from", x.copy(3, -1, 2, 0, 1), -11);
        DUE.is("NULL to", x.copy(0, 0, 3, 0, 1), -11);
        DUE.is("NULL, the same", x.copy(3, 0, 3, 0, 0), -11);
        DUE.bad("copy", x.copy(-1, 0, 0, 0, 0), x.copy(4, 0, 0, 0, 0), x.copy(0, 0, -1, 0, 0),
            x.copy(0, 0, 4, 0, 0), x.copy(3, 0, 4, 0, 0));
    }

    private static void seen(DeedTortoise x, int i, int n, int above, int below, int from) {
        String call = "seen(" + i + ", " + n + ")";
        DUE.is(call + ", above", x.seen(0, 2, i, n, 0), above);
        DUE.is(call + ", below", x.seen(0, 2, i, n, 1), below);
        DUE.is(call + ", from", x.seen(0, 2, i, n, 2), from);
    }

    private static void seenRows() {
        DeedTortoise x = new DeedTortoise();
        Due.valley(x, "0:m9l#1s2#4g#3c9#4m#2l#4");
        Due.row(x, 0, 2, 0, 1, 2, 3, 3, 2, 1, 0, 6, 7, 5, -1, 0);
        seen(x, 0, 1, 1, 2, 3);
        seen(x, 0, 4, 5 * 5 * 9 * 5 / 125, 10000 / 125, 3);
        seen(x, 0, 8, 27, 40000, 3);
        seen(x, 1, 1, 1, 2, 1 | 4);
        seen(x, 1, 3, 9 * 5 * 5 / 25, 1000 / 25, 1 | 4);
        seen(x, 1, 6, 9 * 5 * 5 * 5 * 3 * 4 / 500, 1000000 / 500, 1 | 4);
        seen(x, 7, 1, 1, 2, 3);
        seen(x, 8, 1, 0, 1, 1 << 5 | 1 << 6);
        seen(x, 9, 1, 0, 1, 0);
        seen(x, 9, 2, 0, 1, 0);
        seen(x, 11, 2, 0, 1, 0);
        x.sheet(0, 2, 8);
        seen(x, 0, 8, 1, 256, 1 | 2);
        Due.row(x, 0, 3, 4294967296L, 1);
        DUE.is("no field of longs", x.seen(0, 3, 0, 1, 0), 0);
        DUE.is("no field of longs", x.seen(0, 3, 0, 1, 2), 0);
    }

    private static void seenRefused() {
        DeedTortoise x = new DeedTortoise();
        x.sheet(0, 2, 9);
        DUE.bad("seen", x.seen(-1, 2, 0, 1, 0), x.seen(4, 2, 0, 1, 0), x.seen(0, -1, 0, 1, 0),
            x.seen(0, 4, 0, 1, 0), x.seen(0, 2, 0, 0, 0), x.seen(0, 2, 0, 9, 0), x.seen(0, 2, 0, 1, -1),
            x.seen(0, 2, 0, 1, 3), x.seen(1, 2, 0, 0, 0), x.seen(0, 2, 0, Integer.MIN_VALUE, 0));
        DUE.is("NULL", x.seen(1, 2, 99, 1, 0), -11);
        DUE.is("CAST", x.seen(0, 3, 99, 1, 0), -12);
        DUE.is("INDEX", x.seen(0, 2, -1, 1, 0), -13);
        DUE.is("INDEX", x.seen(0, 2, 2, 8, 0), -13);
        DUE.is("INDEX", x.seen(0, 2, Integer.MAX_VALUE, 8, 2), -13);
        DUE.is("at the end", x.seen(0, 2, 1, 8, 1), 256);
    }

    private static void bore(DeedTortoise x, int field, int kinds, int foods) {
        int n = 3;
        DUE.is("bore of " + field + ", kinds", x.bore(field, 0, 2, 0, n, 0), kinds);
        DUE.is("bore of " + field + ", foods", x.bore(field, 0, 2, 0, n, 1), foods);
    }

    /** By a draw of 1 the days' numbers are 8, 8, 3. */
    private static void boreRows() {
        DeedTortoise x = new DeedTortoise();
        Due.row(x, 0, 2, 0, 0, 1);
        bore(x, 0, 1 | 2 | 4, 1023);
        bore(x, 1, 31, 1023);
        bore(x, 6, 31, 1023);
        x.field(0, 4);
        // a lane without food goes on by 9 of 10, with food by 7; after two days eaten none is left of 1 or 2
        bore(x, 0, 1 | 2 | 4, 1023 & ~1 & ~2);
        Due.row(x, 0, 2, 0, 1, 2);
        // with food of 1 it eats on the first day, and goes on by 9 of 10 on the second
        bore(x, 0, 0, 2);
        x.field(1, 0);
        Due.row(x, 0, 2, 1, 1, 2);
        bore(x, 0, 16, 1);
        x.lettuce(0, 2);
        x.field(0, 1);
        x.carry(1);
        x.lettuce(1, 3);
        Due.row(x, 0, 2, 1, 1, 1);
        // 3 stays: clover of 3 less 2 goes on by 5; a garden by 2; foods of a meadow are all one
        bore(x, 1, 8, 0);
        x.field(1, 3);
        bore(x, 1, 8, 1023);
        x.field(1, 1);
        // clover goes on by 3 or less: its food behind two days is 4 at least
        bore(x, 1, 8, 1023 & ~63);
        Due.row(x, 0, 2, 1, 1, 7);
        bore(x, 1, 0, 0);
        DUE.is("kind stays", x.of(1, 0), 1);
        DUE.is("food stays", x.of(1, 1), 3);
        DUE.is("the draw stays", x.seed(1), 1);
    }

    private static void boreRefused() {
        DeedTortoise x = new DeedTortoise();
        x.sheet(0, 2, 9);
        DUE.bad("bore", x.bore(-1, 0, 2, 0, 1, 0), x.bore(7, 0, 2, 0, 1, 0), x.bore(0, -1, 2, 0, 1, 0),
            x.bore(0, 4, 2, 0, 1, 0), x.bore(0, 0, -1, 0, 1, 0), x.bore(0, 0, 4, 0, 1, 0),
            x.bore(0, 0, 2, 0, 0, 0), x.bore(0, 0, 2, 0, 9, 0), x.bore(0, 0, 2, 0, 1, -1),
            x.bore(0, 0, 2, 0, 1, 2), x.bore(0, 1, 2, 0, 9, 0));
        DUE.is("NULL", x.bore(0, 1, 2, 99, 1, 0), -11);
        DUE.is("CAST", x.bore(0, 0, 3, 99, 1, 0), -12);
        DUE.is("INDEX", x.bore(0, 0, 2, -1, 1, 0), -13);
        DUE.is("INDEX", x.bore(0, 0, 2, 2, 8, 0), -13);
        DUE.is("INDEX", x.bore(0, 0, 2, Integer.MAX_VALUE, 1, 1), -13);
    }

    private static void films() {
        for (int lane = 0; lane < 4; lane++) {
            DeedTortoise x = new DeedTortoise();
            Due.valley(x, "1:m2#1s7#3c#4g5#2l#4s9m3#4");
            x.seed(31337);
            x.sheet(1, lane, 24);
            DUE.is("film", x.film(24, 1, lane, 0), 24);
            for (int k = 0; k < 24; k++) {
                x.sheet(2, lane, 1);
                x.copy(1, k, 2, 0, 1);
                x.carry(0);
                int from = x.seen(2, lane, 0, 1, 2);
                x.undo();
                x.item(2, lane, 0, x.next(k + 1));
                x.carry(0);
                DUE.is("film's item " + k, from, x.seen(2, lane, 0, 1, 2));
                x.undo();
            }
            DUE.is("day stays", x.count(2), 0);
            DUE.is("draw stays", x.seed(1), 31337);
            x.seed(1);
        }
        DeedTortoise y = new DeedTortoise();
        y.carry(6);
        y.sheet(0, 0, 4);
        DUE.is("from item i on", y.film(2, 0, 0, 1), 2);
        items("from item i on", y, 0, 0, 0, 6, 6, 0);
    }

    private static void filmsRefused() {
        DeedTortoise x = new DeedTortoise();
        x.sheet(0, 2, 3);
        x.carry(6);
        DUE.bad("film", x.film(0, 0, 2, 0), x.film(25, 0, 2, 0), x.film(-1, 0, 2, 0), x.film(1, -1, 2, 0),
            x.film(1, 4, 2, 0), x.film(1, 0, -1, 0), x.film(1, 0, 4, 0), x.film(25, 1, 2, 0));
        DUE.is("NULL", x.film(1, 1, 2, -1), -11);
        DUE.is("CAST", x.film(1, 0, 1, -1), -12);
        DUE.is("INDEX", x.film(1, 0, 2, -1), -13);
        DUE.is("INDEX", x.film(1, 0, 2, 3), -13);
        DUE.is("INDEX", x.film(4, 0, 2, 0), -13);
        DUE.is("INDEX", x.film(24, 0, 2, Integer.MAX_VALUE), -13);
        items("what is refused changes nothing", x, 0, 2, 0, 0, 0);
        DUE.is("at the end", x.film(2, 0, 2, 1), 2);
        items("at the end", x, 0, 2, 0, 6, 6);
    }
}
