import java.util.Arrays;

/** Sentence by sentence the edges of promises 27 to 33. */
public final class EdgesOfSheets {
    private static final int BAD = -1, NULL = -11, CAST = -12, INDEX = -13, SIZE = -14;
    private static final int LEAST = Integer.MIN_VALUE, MOST = Integer.MAX_VALUE;
    private static final Due DUE = new Due();

    /** Sheet 0: 24 ints; 1: 3 bytes; 2: no longs; 3: nothing. */
    private static final Twins BUSY = new Twins(DUE, Twins::busy);

    public static void main(String[] args) {
        rowsRefused("seen", 8, (x, s, lane, i, n) -> x.seen(s, lane, i, n, 0));
        rowsRefused("seen's set", 8, (x, s, lane, i, n) -> x.seen(s, lane, i, n, 2));
        rowsRefused("bore", 8, (x, s, lane, i, n) -> x.bore(3, s, lane, i, n, 0));
        rowsRefused("bore's foods", 8, (x, s, lane, i, n) -> x.bore(3, s, lane, i, n, 1));
        rowsRefused("film", 24, (x, s, lane, i, n) -> x.film(n, s, lane, i));
        whatIsAskedOfRowsSeen();
        whatIsAskedOfRowsThatBore();
        seenAtTheEdges();
        seenWithFoodAsItIs();
        fromAtTheEdges();
        itemsThatAreNoField();
        boreAtTheEdges();
        boreEatsOnItsWay();
        films();
        newRows();
        newRowsRefused();
        drops();
        itemsRefused();
        lowestBits();
        copiesRefused();
        copiesOfNoItem();
        copiesAsIfTakenAhead();
        nothingElseIsChanged();
        DUE.end();
    }

    /** A call that takes n items of a sheet from item i on. */
    private interface Row {
        long on(DeedTortoise x, int sheet, int lane, int i, int n);
    }

    private static void rowsRefused(String call, int most, Row made) {
        BUSY.bounds(call + ", sheet", 0, 3, (x, s) -> made.on(x, s, 2, 0, 1));
        BUSY.bounds(call + ", lane", 0, 3, (x, lane) -> made.on(x, 0, lane, 0, 1));
        BUSY.bounds(call + ", n", 1, most, (x, n) -> made.on(x, 0, 2, 0, n));
        rowsOfNothing(call, made);
        rowsOfAnotherLane(call, made);
        rowsOutside(call, most, made);
        badRowsFirst(call, most, made);
    }

    private static void rowsOfNothing(String call, Row made) {
        for (int lane = 0; lane < 4; lane++) {
            int asked = lane;
            BUSY.stays(call + " of nothing, lane " + lane, NULL, x -> made.on(x, 3, asked, 0, 1));
        }
        BUSY.stays(call + ", NULL ahead of INDEX below", NULL, x -> made.on(x, 3, 2, -1, 1));
        BUSY.stays(call + ", NULL ahead of INDEX above", NULL, x -> made.on(x, 3, 2, 25, 1));
    }

    private static void rowsOfAnotherLane(String call, Row made) {
        for (int lane : new int[] {0, 1, 3}) {
            BUSY.stays(call + " of ints, lane " + lane, CAST, x -> made.on(x, 0, lane, 0, 1));
            BUSY.stays(call + ", CAST ahead of INDEX below, lane " + lane, CAST, x -> made.on(x, 0, lane, -1, 1));
            BUSY.stays(call + ", CAST ahead of INDEX above, lane " + lane, CAST, x -> made.on(x, 0, lane, 24, 1));
        }
        for (int lane = 1; lane < 4; lane++) {
            int asked = lane;
            BUSY.stays(call + " of bytes, lane " + lane, CAST, x -> made.on(x, 1, asked, 0, 1));
        }
        for (int lane = 0; lane < 3; lane++) {
            int asked = lane;
            BUSY.stays(call + " of longs, lane " + lane, CAST, x -> made.on(x, 2, asked, 0, 1));
        }
    }

    private static void rowsOutside(String call, int most, Row made) {
        BUSY.stays(call + " from -1 on", INDEX, x -> made.on(x, 0, 2, -1, 1));
        BUSY.stays(call + " from the least int on", INDEX, x -> made.on(x, 0, 2, LEAST, 1));
        BUSY.stays(call + " from behind the last one on", INDEX, x -> made.on(x, 0, 2, 24, 1));
        BUSY.stays(call + " from above the last one on", INDEX, x -> made.on(x, 0, 2, 25, 1));
        BUSY.stays(call + " from the most int on", INDEX, x -> made.on(x, 0, 2, MOST, 1));
        BUSY.stays(call + " from the most int on, many", INDEX, x -> made.on(x, 0, 2, MOST, most));
        BUSY.stays(call + ", one too many", INDEX, x -> made.on(x, 0, 2, 25 - most, most));
        BUSY.stays(call + ", two from the last one on", INDEX, x -> made.on(x, 0, 2, 23, 2));
        BUSY.stays(call + ", 4 of 3", INDEX, x -> made.on(x, 1, 0, 0, 4));
        BUSY.stays(call + " of a row without items", INDEX, x -> made.on(x, 2, 3, 0, 1));
        taken(call + " to the last one", x -> made.on(x, 0, 2, 24 - most, most));
        taken(call + " of the last one", x -> made.on(x, 0, 2, 23, 1));
        taken(call + " of the first one", x -> made.on(x, 0, 2, 0, 1));
        taken(call + ", 3 of 3", x -> made.on(x, 1, 0, 0, 3));
    }

    private static void taken(String call, Twins.Call made) {
        DeedTortoise x = new DeedTortoise();
        Twins.busy(x);
        DUE.isTrue(call + " is taken", made.on(x) >= 0);
    }

    private static void badRowsFirst(String call, int most, Row made) {
        for (int n : new int[] {0, most + 1}) {
            BUSY.stays(call + ", BAD n ahead of NULL", BAD, x -> made.on(x, 3, 2, 0, n));
            BUSY.stays(call + ", BAD n ahead of CAST", BAD, x -> made.on(x, 0, 1, 0, n));
            BUSY.stays(call + ", BAD n ahead of INDEX", BAD, x -> made.on(x, 0, 2, 24, n));
        }
        for (int lane : new int[] {-1, 4}) {
            BUSY.stays(call + ", BAD lane ahead of NULL", BAD, x -> made.on(x, 3, lane, 0, 1));
            BUSY.stays(call + ", BAD lane ahead of INDEX", BAD, x -> made.on(x, 0, lane, -1, 1));
        }
        for (int sheet : new int[] {-1, 4}) {
            BUSY.stays(call + ", BAD sheet ahead of INDEX", BAD, x -> made.on(x, sheet, 2, -1, 1));
        }
    }

    private static void whatIsAskedOfRowsSeen() {
        BUSY.bounds("seen's what", 0, 2, (x, what) -> x.seen(0, 2, 0, 1, what));
        for (int what : new int[] {-1, 3}) {
            BUSY.stays("seen, BAD what ahead of NULL", BAD, x -> x.seen(3, 2, 0, 1, what));
            BUSY.stays("seen, BAD what ahead of CAST", BAD, x -> x.seen(0, 1, 0, 1, what));
            BUSY.stays("seen, BAD what ahead of INDEX", BAD, x -> x.seen(0, 2, 24, 1, what));
        }
    }

    private static void whatIsAskedOfRowsThatBore() {
        BUSY.bounds("bore's field", 0, 6, (x, f) -> x.bore(f, 0, 2, 0, 1, 0));
        BUSY.bounds("bore's what", 0, 1, (x, what) -> x.bore(3, 0, 2, 0, 1, what));
        for (int what : new int[] {-1, 2}) {
            BUSY.stays("bore, BAD what ahead of NULL", BAD, x -> x.bore(3, 3, 2, 0, 1, what));
            BUSY.stays("bore, BAD what ahead of CAST", BAD, x -> x.bore(3, 0, 1, 0, 1, what));
            BUSY.stays("bore, BAD what ahead of INDEX", BAD, x -> x.bore(3, 0, 2, 24, 1, what));
        }
        for (int field : new int[] {-1, 7}) {
            BUSY.stays("bore, BAD field ahead of NULL", BAD, x -> x.bore(field, 3, 2, 0, 1, 0));
            BUSY.stays("bore, BAD field ahead of CAST", BAD, x -> x.bore(field, 0, 1, 0, 1, 0));
            BUSY.stays("bore, BAD field ahead of INDEX", BAD, x -> x.bore(field, 0, 2, 24, 1, 0));
        }
    }

    /** In the valley such a row is seen by above of below, and from these fields. */
    private static void seen(String valley, int above, int below, int from, long... row) {
        DeedTortoise x = new DeedTortoise();
        Due.valley(x, valley);
        Due.row(x, 0, 3, row);
        String what = "seen in " + valley + " " + Arrays.toString(row);
        DUE.is(what + ", above", x.seen(0, 3, 0, row.length, 0), above);
        DUE.is(what + ", below", x.seen(0, 3, 0, row.length, 1), below);
        DUE.is(what + ", from", x.seen(0, 3, 0, row.length, 2), from);
    }

    private static void seenAtTheEdges() {
        seen("0:mmmmmmm", 1, 2, 1, 0);
        seen("0:mmmmmmm", 1, 2, 1 | 2, 1);
        seen("0:mmmmmmm", 1, 256, 1 | 2, 1, 1, 1, 1, 1, 1, 1, 1);
        seen("6:mmmmmmm", 1, 1, 32 | 64, 6, 6, 6, 6, 6, 6, 6, 6);
        seen("0:lllllll", 1, 100000000, 1, 0, 0, 0, 0, 0, 0, 0, 0);
        seen("0:mmmmmmm", 0, 1, 2 | 4, 2);
        seen("2:mmmmmmm", 0, 1, 1 | 2, 1);
        seen("2:mmm#4mmmm", 2, 5, 1 | 2 | 4, 1);
        // on from a lane by 9 of ten, back to it by 4
        seen("0:lm#4mmmmm", 81, 625, 1 | 2, 1, 0, 1, 0);
    }

    private static void seenWithFoodAsItIs() {
        seen("0:s1mmmmmm", 1, 256, 1, 0, 0, 0, 0, 0, 0, 0, 0);
        seen("0:s1mmmmmm", 1, 8, 1, 0, 0, 1);
    }

    private static void fromAtTheEdges() {
        seen("0:mmmmmmm", 0, 1, 32 | 64, 6);
        seen("0:m#4m#4m#4m#4m#4m#4m#4", 0, 1, 16 | 32 | 64, 5);
        // neither from the first field back nor from the last one on, and no farther than to the next
        seen("3:mmmmmmm", 0, 1, 0, 0, 6);
        seen("3:mmmmmmm", 0, 1, 0, 1, 0);
        seen("3:mmmmmmm", 0, 1, 0, 6, 5);
        // it can't stay on a lane without food before a hedge
        seen("3:mmml#1mmm", 0, 1, 4, 3);
        seen("3:mmmmmm#4m", 0, 1, 0, 4, 6);
    }

    private static void itemsThatAreNoField() {
        seen("6:mmmmmmm", 0, 1, 0, 7);
        seen("0:mmmmmmm", 0, 1, 0, -1);
        seen("0:mmmmmmm", 0, 1, 0, 0, -1);
        seen("0:mmmmmmm", 0, 1, 0, -1, 0);
        seen("0:mmmmmmm", 0, 1, 0, -1, -1);
        seen("6:mmmmmmm", 0, 1, 0, 7, 6);
        seen("6:mmmmmmm", 0, 1, 0, 7, 7);
        seen("0:mmmmmmm", 0, 1, 0, Long.MAX_VALUE);
        seen("0:mmmmmmm", 0, 1, 0, Long.MIN_VALUE);
        seen("0:mmmmmmm", 0, 1, 0, 1L << 32);
        bore("6:mmmmmmm", 0, 6, 0, 0, 7);
        bore("0:mmmmmmm", 0, 0, 0, 0, -1);
        bore("0:mmmmmmm", 0, 0, 0, 0, -1, 0);
        bore("0:mmmmmmm", 0, 0, 0, 0, 1L << 32);
    }

    /** By the draw such a row comes in the valley if the field is of these kinds, if it has these foods. */
    private static void bore(String valley, int draw, int field, int kinds, int foods, long... row) {
        DeedTortoise x = new DeedTortoise();
        Due.valley(x, valley);
        x.seed(draw);
        Due.row(x, 0, 3, row);
        String what = "bore of " + field + " in " + valley + " " + Arrays.toString(row);
        DUE.is(what + ", kinds", x.bore(field, 0, 3, 0, row.length, 0), kinds);
        DUE.is(what + ", foods", x.bore(field, 0, 3, 0, row.length, 1), foods);
    }

    private static void boreAtTheEdges() {
        int next = Due.drawAheadOf(0);
        int most = Due.drawAheadOf(9);
        bore("0:mmmmmmm", next, 0, 31, 1023, 1);
        bore("0:mmmmmmm", next, 0, 0, 0, 0);
        bore("0:mmmmmmm", next, 1, 31, 1023, 1);
        bore("0:mmmmmmm", next, 6, 31, 1023, 1);
        bore("0:mmmmmmm", most, 0, 31, 1023, 0);
        bore("6:mmmmmmm", next, 6, 31, 1023, 6);
        // by 8 of ten a lane without food alone goes on
        bore("0:lmmmmmm", Due.drawAheadOf(8), 0, 16, 1, 1);
        // by 4 of ten a garden stays, and clover with food of 2 or more; clover of 8 and 9 goes on by 1
        bore("0:cmmmmmm", Due.drawAheadOf(4), 0, 8, 1023 & ~3, 0);
        bore("0:cmmmmmm", Due.drawAheadOf(1), 0, 0, 512 | 256, 0);
        // clover of 8 and 9 and a garden of 9 go on by 1, and back by 4 of ten then
        bore("1:mc9#4mmmmm", Due.drawAheadOf(1), 1, 2 | 8, 512 | 256, 0);
    }

    private static void boreEatsOnItsWay() {
        // on a lane with food of 1 it eats that, and goes on by 9 of ten then, as from one without
        bore("0:lmmmmmm", Due.drawAheadOf(9, 8), 0, 16, 1 | 2, 0, 1);
        // on clover with food of 9 it goes on by 1, 1, 2, 2, 3 of ten; on a garden by 1 each day
        bore("0:c9mmmmmm", Due.drawAheadOf(1, 1, 2, 2, 3), 0, 2 | 8, 512, 0, 0, 0, 0, 0);
    }

    private static void films() {
        for (int lane = 0; lane < 4; lane++) {
            DeedTortoise x = new DeedTortoise();
            Due.valley(x, "0:s3mmmmmm");
            x.sheet(0, lane, 24);
            x.seed(Due.drawAheadOf(9, 0, 9, 4, 3));
            DUE.is("film", x.film(5, 0, lane, 19), 5);
            items("film, lane " + lane, x, 0, lane, 18, 0, 0, 1, 1, 2, 3);
            DUE.is("the draw stays: film again", x.film(1, 0, lane, 0), 1);
            items("film again, lane " + lane, x, 0, lane, 0, 0, 0);
            DUE.is("all of it", x.film(24, 0, lane, 0), 24);
            items("all of it, lane " + lane, x, 0, lane, 0, 0, 1, 1, 2, 3);
        }
        DeedTortoise eats = new DeedTortoise();
        Due.valley(eats, "3:mmms1mmm");
        eats.seed(Due.drawAheadOf(9, 6));
        eats.sheet(0, 0, 2);
        eats.film(2, 0, 0, 0);
        items("it eats", eats, 0, 0, 0, 3, 4);
    }

    /** Items (below 0: no field) show by the fields from which they can be seen, in a valley without hedges. */
    private static void items(String what, DeedTortoise x, int sheet, int lane, int i, int... want) {
        for (int k = 0; k < want.length; k++) {
            int from = want[k] < 0 ? 0 : want[k] == 0 ? 1 : 3 << (want[k] - 1);
            DUE.is(what + ", item " + (i + k), x.seen(sheet, lane, i + k, 1, 2), from);
        }
    }

    private static void newRows() {
        for (int lane = 0; lane < 4; lane++) {
            for (int n : new int[] {0, 1, 24}) {
                DeedTortoise x = new DeedTortoise();
                DUE.is("sheet()", x.sheet(3, lane, n), n);
                DUE.is("n items", x.item(3, lane, n, 0), INDEX);
                for (int i = 0; i < n; i++) {
                    items("a new row, lane " + lane, x, 3, lane, i, 0);
                }
                DUE.is("drop()", x.drop(3), n);
            }
        }
        DeedTortoise x = new DeedTortoise();
        Due.row(x, 0, 2, 5, 5, 5);
        DUE.is("in place of another one", x.sheet(0, 1, 2), 2);
        DUE.is("of another lane", x.seen(0, 2, 0, 1, 0), CAST);
        items("of new items", x, 0, 1, 0, 0, 0);
        DUE.is("of another length", x.item(0, 1, 2, 0), INDEX);
        x.drop(0);
        x.sheet(0, 1, 3);
        items("behind a drop, too", x, 0, 1, 0, 0, 0, 0);
    }

    private static void newRowsRefused() {
        BUSY.bounds("sheet(sheet, 1, 5)", 0, 3, (x, s) -> x.sheet(s, 1, 5));
        BUSY.bounds("sheet(0, lane, 5)", 0, 3, (x, lane) -> x.sheet(0, lane, 5));
        BUSY.tooLarge("sheet(0, 2, n)", 24, (x, n) -> x.sheet(0, 2, n));
        BUSY.is("24 items", 24, x -> x.sheet(0, 2, 24));
        BUSY.is("no items", 0, x -> x.sheet(0, 2, 0));
        BUSY.stays("-1 items", SIZE, x -> x.sheet(0, 2, -1));
        BUSY.stays("the least int of items", SIZE, x -> x.sheet(0, 2, LEAST));
        BUSY.stays("-1 items where nothing is", SIZE, x -> x.sheet(3, 2, -1));
        for (int wrong : new int[] {-1, 4}) {
            BUSY.stays("BAD sheet ahead of SIZE", BAD, x -> x.sheet(wrong, 2, -1));
            BUSY.stays("BAD lane ahead of SIZE", BAD, x -> x.sheet(0, wrong, -1));
        }
    }

    private static void drops() {
        BUSY.bounds("drop(sheet)", 0, 3, DeedTortoise::drop);
        BUSY.is("24 items", 24, x -> x.drop(0));
        BUSY.is("3 items", 3, x -> x.drop(1));
        BUSY.is("no items", 0, x -> x.drop(2));
        BUSY.stays("nothing", NULL, x -> x.drop(3));
        BUSY.is("nothing then", NULL, x -> x.drop(2) == 0 ? x.drop(2) : 0);
        BUSY.is("nothing is seen of it", NULL, x -> x.drop(0) == 24 ? x.seen(0, 2, 0, 1, 0) : 0);
        BUSY.is("another one stays", 3, x -> x.drop(0) == 24 ? x.drop(1) : 0);
    }

    private static void itemsRefused() {
        BUSY.bounds("item(sheet, 2, 0, 1)", 0, 3, (x, s) -> x.item(s, 2, 0, 1));
        BUSY.bounds("item(0, lane, 0, 1)", 0, 3, (x, lane) -> x.item(0, lane, 0, 1));
        for (int i : new int[] {-1, 24, 25, LEAST, MOST}) {
            BUSY.stays("item " + i + " of 24", INDEX, x -> x.item(0, 2, i, 1));
            BUSY.stays("CAST ahead of INDEX", CAST, x -> x.item(0, 3, i, 1));
            BUSY.stays("NULL ahead of INDEX", NULL, x -> x.item(3, 2, i, 1));
            BUSY.stays("BAD sheet ahead of INDEX", BAD, x -> x.item(4, 2, i, 1));
            BUSY.stays("BAD lane ahead of INDEX", BAD, x -> x.item(0, 4, i, 1));
            BUSY.stays("BAD lane ahead of NULL", BAD, x -> x.item(3, 4, i, 1));
        }
        BUSY.stays("item 3 of 3", INDEX, x -> x.item(1, 0, 3, 1));
        BUSY.stays("item 0 of none", INDEX, x -> x.item(2, 3, 0, 1));
        BUSY.stays("of another lane", CAST, x -> x.item(0, 1, 0, 1));
        BUSY.stays("of nothing", NULL, x -> x.item(3, 2, 0, 1));
        BUSY.is("the first one", 1, x -> x.item(0, 2, 0, 9));
        BUSY.is("the last one", 1, x -> x.item(0, 2, 23, 9));
        BUSY.stays("what it was becomes again", 1, x -> x.item(0, 2, 23, 0) + x.item(0, 2, 23, 4) - 1);
    }

    /** In a lane of so many bits the next power of two counts for nothing; in a wider one it is no field. */
    private static void lowestBits() {
        int[] bits = {8, 16, 32, 64};
        for (int lane = 0; lane < 4; lane++) {
            DeedTortoise x = new DeedTortoise();
            x.sheet(0, lane, 1);
            for (int f = 0; f <= 6; f++) {
                DUE.is("item()", x.item(0, lane, 0, f), 1);
                items("field " + f + ", lane " + lane, x, 0, lane, 0, f);
            }
            for (int width : new int[] {7, 8, 15, 16, 31, 32, 62, 63}) {
                boolean isCut = width >= bits[lane];
                x.item(0, lane, 0, (1L << width) + 5);
                items("2 by " + width + " and 5, lane " + lane, x, 0, lane, 0, isCut ? 5 : -1);
                x.item(0, lane, 0, 5 - (1L << width));
                items("5 less 2 by " + width + ", lane " + lane, x, 0, lane, 0, isCut ? 5 : -1);
            }
            for (long none : new long[] {-1, 7, Long.MAX_VALUE}) {
                x.item(0, lane, 0, none);
                items("no field, lane " + lane, x, 0, lane, 0, -1);
            }
            x.item(0, lane, 0, Long.MIN_VALUE);
            items("the least long, lane " + lane, x, 0, lane, 0, lane < 3 ? 0 : -1);
        }
    }

    private static void copiesRefused() {
        BUSY.bounds("copy(from, 0, 0, 0, 0)", 0, 3, (x, s) -> x.copy(s, 0, 0, 0, 0));
        BUSY.bounds("copy(0, 0, to, 0, 0)", 0, 3, (x, s) -> x.copy(0, 0, s, 0, 0));
        BUSY.stays("from nothing", NULL, x -> x.copy(3, 0, 0, 0, 1));
        BUSY.stays("to nothing", NULL, x -> x.copy(0, 0, 3, 0, 1));
        BUSY.stays("from nothing to the same", NULL, x -> x.copy(3, 0, 3, 0, 1));
        BUSY.stays("ints to bytes", CAST, x -> x.copy(0, 0, 1, 0, 1));
        BUSY.stays("bytes to ints", CAST, x -> x.copy(1, 0, 0, 0, 1));
        BUSY.stays("no item of ints to bytes", CAST, x -> x.copy(0, 0, 1, 0, 0));
        for (int wrong : new int[] {-1, 25, LEAST, MOST}) {
            BUSY.stays("copy from item " + wrong + " on", INDEX, x -> x.copy(0, wrong, 0, 0, 1));
            BUSY.stays("copy to item " + wrong, INDEX, x -> x.copy(0, 0, 0, wrong, 1));
            BUSY.stays("copy of " + wrong + " items", INDEX, x -> x.copy(0, 0, 0, 0, wrong));
            BUSY.stays("copy of " + wrong + " items from 1 to 1", INDEX, x -> x.copy(0, 1, 0, 1, wrong));
            BUSY.stays("CAST ahead of INDEX, from", CAST, x -> x.copy(0, wrong, 1, 0, 1));
            BUSY.stays("CAST ahead of INDEX, to", CAST, x -> x.copy(0, 0, 1, wrong, 1));
            BUSY.stays("CAST ahead of INDEX, n", CAST, x -> x.copy(0, 0, 1, 0, wrong));
            BUSY.stays("NULL ahead of INDEX, from", NULL, x -> x.copy(0, wrong, 3, 0, 1));
            BUSY.stays("NULL ahead of INDEX, to", NULL, x -> x.copy(3, 0, 0, wrong, 1));
            BUSY.stays("NULL ahead of INDEX, n", NULL, x -> x.copy(3, 0, 0, 0, wrong));
        }
        for (int wrong : new int[] {-1, 4}) {
            BUSY.stays("BAD from ahead of NULL", BAD, x -> x.copy(wrong, 0, 3, 0, 1));
            BUSY.stays("BAD to ahead of NULL", BAD, x -> x.copy(3, 0, wrong, 0, 1));
            BUSY.stays("BAD from ahead of INDEX", BAD, x -> x.copy(wrong, -1, 0, 0, 1));
            BUSY.stays("BAD to ahead of INDEX", BAD, x -> x.copy(0, 0, wrong, -1, -1));
        }
        BUSY.stays("one too many from there", INDEX, x -> x.copy(0, 22, 0, 0, 3));
        BUSY.stays("one too many to there", INDEX, x -> x.copy(0, 0, 0, 22, 3));
        BUSY.is("to the last one", 2, x -> x.copy(0, 22, 0, 0, 2));
        BUSY.is("to the last one", 2, x -> x.copy(0, 0, 0, 22, 2));
        BUSY.stays("all of it", 24, x -> x.copy(0, 0, 0, 0, 24));
    }

    private static void copiesOfNoItem() {
        BUSY.stays("from the first one", 0, x -> x.copy(0, 0, 0, 0, 0));
        BUSY.stays("from behind the last one", 0, x -> x.copy(0, 24, 0, 0, 0));
        BUSY.stays("to behind the last one", 0, x -> x.copy(0, 0, 0, 24, 0));
        BUSY.stays("from above it", INDEX, x -> x.copy(0, 25, 0, 0, 0));
        BUSY.stays("to above it", INDEX, x -> x.copy(0, 0, 0, 25, 0));
        BUSY.stays("from below 0", INDEX, x -> x.copy(0, -1, 0, 0, 0));
        BUSY.stays("to below 0", INDEX, x -> x.copy(0, 0, 0, -1, 0));
        BUSY.stays("of a row without items", 0, x -> x.copy(2, 0, 2, 0, 0));
        BUSY.stays("of a row without items, above", INDEX, x -> x.copy(2, 1, 2, 0, 0));
        BUSY.stays("of a row without items, to above", INDEX, x -> x.copy(2, 0, 2, 1, 0));
        BUSY.stays("of a row without items, one", INDEX, x -> x.copy(2, 0, 2, 0, 1));
    }

    private static void copiesAsIfTakenAhead() {
        for (int lane = 0; lane < 4; lane++) {
            DeedTortoise x = new DeedTortoise();
            Due.row(x, 1, lane, 0, 1, 2, 3, 4, 5, 6);
            DUE.is("on by one", x.copy(1, 0, 1, 1, 6), 6);
            items("on by one", x, 1, lane, 0, 0, 0, 1, 2, 3, 4, 5);
            DUE.is("back by two", x.copy(1, 2, 1, 0, 5), 5);
            items("back by two", x, 1, lane, 0, 1, 2, 3, 4, 5, 4, 5);
            x.sheet(2, lane, 9);
            DUE.is("to another one", x.copy(1, 5, 2, 7, 2), 2);
            items("to another one", x, 2, lane, 6, 0, 4, 5);
            items("which it comes from", x, 1, lane, 0, 1, 2, 3, 4, 5, 4, 5);
            x.item(1, lane, 5, 0);
            items("it is no longer the same", x, 2, lane, 7, 4);
            x.item(1, lane, 6, -1);
            x.copy(1, 6, 2, 0, 1);
            items("what is no field comes, too", x, 2, lane, 0, -1);
        }
        DeedTortoise x = new DeedTortoise();
        Due.row(x, 0, 3, (1L << 32) + 2);
        x.sheet(1, 3, 1);
        x.copy(0, 0, 1, 0, 1);
        items("a long is not cut", x, 1, 3, 0, -1);
    }

    private static void nothingElseIsChanged() {
        BUSY.leaves("seen()", x -> x.seen(0, 2, 0, 8, 0));
        BUSY.leaves("seen(), a set", x -> x.seen(0, 2, 0, 8, 2));
        BUSY.leaves("bore()", x -> x.bore(3, 0, 2, 0, 8, 0));
        BUSY.leaves("bore(), foods", x -> x.bore(3, 0, 2, 0, 8, 1));
        Twins without = new Twins(DUE, x -> {
            Twins.busy(x);
            x.drop(0);
        });
        without.leaves("a row come and gone", x -> x.sheet(0, 3, 24) - 24 + x.drop(0));
        without.leaves("an item of it", x -> x.sheet(0, 3, 24) - 24 + x.item(0, 3, 23, 6) + x.drop(0));
        without.leaves("a film come and gone", x -> x.sheet(0, 3, 24) - 24 + x.film(24, 0, 3, 0) + x.drop(0));
    }
}
