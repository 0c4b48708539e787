/** Sentence by sentence the edges of a day and of promises 9 to 14. */
public final class EdgesOfWhatIsDone {
    private static final int CLOVER = 1, STUBBLE = 2, LANE = 4, LAST_DRAW = Integer.MAX_VALUE;
    private static final Due DUE = new Due();
    private static final Twins BUSY = new Twins(DUE, Twins::busy);
    private static final Twins FRESH = new Twins(DUE, x -> { });

    public static void main(String[] args) {
        theDrawIsOneAtFirst();
        theLowestBitsOfTheDraw();
        belowOnItGoesOn();
        belowOnAndBackTogetherItGoesBack();
        elseItStaysAndEats();
        noFoodBelowNone();
        itEatsOfItsOwnFieldAlone();
        whatItAteCountsOnTheNextDay();
        itIsTheNextDay();
        oneToFortyDays();
        noDayAboveTheLast();
        eachDayByItselfMayBeUndone();
        carriedToAnotherField();
        lettuceByOneToNine();
        nineFoodAtMost();
        lettuceRefused();
        anotherHedge();
        hedgeRefused();
        nothingToBeUndone();
        theLatestIsUndone();
        eightAreKnown();
        olderOnesAreLost();
        whateverWasToldSince();
        whatLeavesNothing();
        whatLeavesAll();
        theDrawIsTold();
        DUE.end();
    }

    /** The tortoise is on field 3, with a number of ten that comes next. */
    private static DeedTortoise made(int kind, int food, int hedge, int number) {
        DeedTortoise x = new DeedTortoise();
        x.field(3, kind);
        if (food > 0) {
            x.lettuce(3, food);
        }
        if (hedge > 0) {
            x.lay(3, hedge);
        }
        x.carry(3);
        x.seed(Due.drawAheadOf(number));
        return x;
    }

    private static void aDay(int kind, int food, int hedge, int number, int field, int left) {
        DeedTortoise x = made(kind, food, hedge, number);
        String what = "kind " + kind + ", food " + food + ", hedge " + hedge + ", number " + number;
        DUE.is(what + ": where", x.days(1), field);
        DUE.is(what + ": food", x.of(3, 1), left);
    }

    private static void theDrawIsOneAtFirst() {
        DeedTortoise x = new DeedTortoise();
        x.days(1);
        DUE.is("the draw behind the first day", x.seed(0), 1103527590);
    }

    private static void theLowestBitsOfTheDraw() {
        for (int v : new int[] {0, 1, 2, 1 << 30, LAST_DRAW, LAST_DRAW - 1, 65535, 65536, 1103515245}) {
            DeedTortoise x = new DeedTortoise();
            x.seed(v);
            x.days(1);
            DUE.is("the draw behind " + v, x.seed(0), Due.drawAfter(v));
        }
        DeedTortoise x = new DeedTortoise();
        x.seed(0);
        x.days(1);
        DUE.is("0 becomes", x.seed(0), 12345);
    }

    private static void belowOnItGoesOn() {
        aDay(0, 2, 4, 0, 4, 2);
        aDay(0, 2, 4, 4, 4, 2);
        aDay(LANE, 0, 0, 8, 4, 0);
        aDay(CLOVER, 9, 0, 0, 4, 9);
    }

    private static void belowOnAndBackTogetherItGoesBack() {
        aDay(0, 2, 4, 5, 2, 2);
        aDay(0, 2, 4, 8, 2, 2);
        aDay(0, 2, 1, 5, 2, 2);
        aDay(LANE, 0, 4, 9, 2, 0);
        aDay(STUBBLE, 0, 4, 9, 2, 0);
        aDay(CLOVER, 9, 4, 1, 2, 9);
        aDay(CLOVER, 9, 4, 4, 2, 9);
    }

    private static void elseItStaysAndEats() {
        aDay(0, 2, 4, 9, 3, 1);
        aDay(0, 2, 1, 6, 3, 1);
        aDay(0, 2, 0, 5, 3, 1);
        aDay(CLOVER, 9, 4, 5, 3, 8);
        aDay(LANE, 1, 0, 7, 3, 0);
    }

    private static void noFoodBelowNone() {
        aDay(0, 1, 0, 9, 3, 0);
        aDay(0, 0, 0, 9, 3, 0);
        aDay(LANE, 0, 0, 9, 3, 0);
    }

    private static void itEatsOfItsOwnFieldAlone() {
        DeedTortoise x = made(0, 9, 0, 9);
        for (int f = 0; f < 7; f++) {
            x.lettuce(f, 9);
        }
        x.days(1);
        for (int f = 0; f < 7; f++) {
            DUE.is("food of " + f, x.of(f, 1), f == 3 ? 8 : 9);
        }
        x.carry(6);
        x.days(2);
        DUE.is("it stays on the last field and eats", x.of(6, 1), 7);
        x.carry(0);
        x.seed(Due.drawAheadOf(9));
        x.days(1);
        DUE.is("it stays on the first field and eats", x.of(0, 1), 8);
    }

    private static void whatItAteCountsOnTheNextDay() {
        DeedTortoise x = made(STUBBLE, 1, 0, 0);
        x.seed(Due.drawAheadOf(9, 6));
        DUE.is("on the first day it stays, on the second one it goes on by 7", x.days(2), 4);
        DeedTortoise y = made(STUBBLE, 2, 0, 0);
        y.seed(Due.drawAheadOf(9, 6));
        DUE.is("there is food yet: it stays", y.days(2), 3);
    }

    private static void itIsTheNextDay() {
        DeedTortoise x = new DeedTortoise();
        x.days(1);
        DUE.is("the next day", x.count(2), 1);
        x.days(40);
        DUE.is("40 more", x.count(2), 41);
        x.carry(x.count(1) == 0 ? 1 : 0);
        x.lettuce(0, 1);
        x.lay(0, 1);
        DUE.is("no day passes by what else is done", x.count(2), 41);
    }

    private static void oneToFortyDays() {
        BUSY.bounds("days(n)", 1, 40, DeedTortoise::days);
        BUSY.stays("days(0)", -1, x -> x.days(0));
        DUE.is("on which field it is then", new DeedTortoise().days(1), 0);
        DUE.is("on which field it is then", new DeedTortoise().days(3), 1);
        DUE.is("on which field it is then", new DeedTortoise().days(40), 6);
    }

    private static void daysPass(DeedTortoise x, int days) {
        for (int d = 0; d + 40 <= days; d += 40) {
            x.days(40);
        }
        if (days % 40 > 0) {
            x.days(days % 40);
        }
    }

    private static void noDayAboveTheLast() {
        Twins last = new Twins(DUE, x -> daysPass(x, 9999));
        last.is("the last day is reached", 9999, x -> x.count(2));
        last.stays("one day above it", -3, x -> x.days(1));
        last.stays("40 days above it", -3, x -> x.days(40));
        last.stays("BAD ahead of FULL: 0", -1, x -> x.days(0));
        last.stays("BAD ahead of FULL: 41", -1, x -> x.days(41));
        last.stays("BAD ahead of FULL: the most int", -1, x -> x.days(Integer.MAX_VALUE));
        last.is("what is next is known beyond it", 6, x -> x.next(40));
        Twins near = new Twins(DUE, x -> daysPass(x, 9959));
        near.is("40 days to the last one", 6, x -> x.days(40));
        Twins nearer = new Twins(DUE, x -> daysPass(x, 9960));
        nearer.stays("40 days to one above it", -3, x -> x.days(40));
        nearer.is("39 days to the last one", 6, x -> x.days(39));
    }

    private static void eachDayByItselfMayBeUndone() {
        DeedTortoise x = new DeedTortoise();
        x.days(3);
        for (int left = 2; left >= 0; left--) {
            DUE.is("undo", x.undo(), left);
            DUE.is("the day", x.count(2), left);
        }
        DUE.is("undo", x.undo(), -4);
        DUE.is("the draw", x.seed(0), 1);
        x.days(40);
        DUE.is("of 40 days", x.count(6), 8);
        DUE.is("undo the last one", x.undo(), 7);
        DUE.is("the day ahead of it", x.count(2), 39);
    }

    private static void carriedToAnotherField() {
        BUSY.bounds("carry(field)", 0, 6, DeedTortoise::carry);
        BUSY.stays("it is there", -2, x -> x.carry(3));
        FRESH.stays("it is there at first", -2, x -> x.carry(0));
        BUSY.is("where it was", 3, x -> x.carry(0));
        DeedTortoise x = new DeedTortoise();
        DUE.is("from the first field to the last one", x.carry(6), 0);
        DUE.is("from the last field to the first one", x.carry(0), 6);
        DUE.is("carried may be undone", x.undo(), 1);
        DUE.is("where it was", x.count(1), 6);
        DUE.is("no draw is used", x.seed(1), 1);
    }

    private static void lettuceByOneToNine() {
        BUSY.bounds("lettuce(field, 1)", 0, 6, (x, f) -> x.lettuce(f, 1));
        BUSY.bounds("lettuce(0, n)", 1, 9, (x, n) -> x.lettuce(0, n));
        FRESH.is("one", 1, x -> x.lettuce(0, 1));
        FRESH.is("nine", 9, x -> x.lettuce(6, 9));
    }

    private static void nineFoodAtMost() {
        DeedTortoise x = new DeedTortoise();
        DUE.is("0 and 8", x.lettuce(2, 8), 8);
        DUE.is("8 and 1", x.lettuce(2, 1), 9);
        x.undo();
        DUE.is("8 and 2: 9 at most", x.lettuce(2, 2), 9);
        x.undo();
        DUE.is("8 and 9: 9 at most", x.lettuce(2, 9), 9);
        DUE.is("food", x.of(2, 1), 9);
        DUE.is("all food", x.count(3), 9);
        x.undo();
        DUE.is("lettuce may be undone", x.of(2, 1), 8);
    }

    private static void lettuceRefused() {
        Twins full = new Twins(DUE, x -> {
            Twins.busy(x);
            x.lettuce(5, 9);
        });
        full.stays("there is 9", -2, x -> x.lettuce(5, 1));
        full.stays("there is 9", -2, x -> x.lettuce(5, 9));
        full.stays("BAD ahead of NOT: 0", -1, x -> x.lettuce(5, 0));
        full.stays("BAD ahead of NOT: 10", -1, x -> x.lettuce(5, 10));
        full.is("another field is not full", 9, x -> x.lettuce(4, 9));
    }

    private static void anotherHedge() {
        BUSY.bounds("lay(field, 4)", 0, 6, (x, f) -> x.lay(f, 4));
        BUSY.bounds("lay(4, hedge)", 0, 4, (x, h) -> x.lay(4, h));
        DeedTortoise x = new DeedTortoise();
        DUE.is("the hedge it had", x.lay(6, 4), 0);
        DUE.is("the hedge it had", x.lay(6, 1), 4);
        DUE.is("the hedge it had", x.lay(6, 0), 1);
        DUE.is("hedge", x.of(6, 2), 0);
        DUE.is("laid may be undone", x.undo(), 2);
        DUE.is("hedge", x.of(6, 2), 1);
        DUE.is("all hedges", x.count(4), 1);
    }

    private static void hedgeRefused() {
        FRESH.stays("it is so: none", -2, x -> x.lay(0, 0));
        Twins high = new Twins(DUE, x -> {
            Twins.busy(x);
            x.lay(5, 4);
        });
        high.stays("it is so: the highest", -2, x -> x.lay(5, 4));
        high.stays("BAD ahead of NOT", -1, x -> x.lay(7, 0));
        high.stays("BAD ahead of NOT", -1, x -> x.lay(5, 5));
    }

    private static void nothingToBeUndone() {
        FRESH.stays("none is known", -4, DeedTortoise::undo);
        Twins again = new Twins(DUE, x -> {
            x.days(2);
            x.undo();
            x.undo();
        });
        again.stays("none more is known", -4, DeedTortoise::undo);
    }

    /** Behind something done and undone all is as on the twin, on which it was not done. */
    private static void theLatestIsUndone() {
        Twins known = new Twins(DUE, x -> {
            Twins.busy(x);
            x.undo();
        });
        known.stays("a day", 7, x -> x.days(1) >= 0 ? x.undo() : -1);
        known.stays("carried", 7, x -> x.carry(0) >= 0 ? x.undo() : -1);
        known.stays("lettuce", 7, x -> x.lettuce(3, 1) >= 0 ? x.undo() : -1);
        known.stays("laid", 7, x -> x.lay(3, 1) >= 0 ? x.undo() : -1);
    }

    private static void eightAreKnown() {
        DeedTortoise x = new DeedTortoise();
        for (int k = 1; k <= 8; k++) {
            x.lettuce(k % 7, 1);
            DUE.is("known", x.count(6), k);
        }
        for (int k = 7; k >= 0; k--) {
            DUE.is("how many more may be", x.undo(), k);
            DUE.is("food", x.count(3), k);
        }
        DUE.is("none more", x.undo(), -4);
    }

    private static void olderOnesAreLost() {
        DeedTortoise x = new DeedTortoise();
        x.carry(5);
        x.lettuce(0, 1);
        for (int k = 0; k < 8; k++) {
            x.lay(k % 7, 1 + k / 7);
        }
        DUE.is("known", x.count(6), 8);
        for (int k = 7; k >= 0; k--) {
            DUE.is("how many more may be", x.undo(), k);
            DUE.is("hedges", x.count(4), k);
        }
        DUE.is("none more", x.undo(), -4);
        DUE.is("the lettuce stays", x.count(3), 1);
        DUE.is("it stays carried", x.count(1), 5);
    }

    private static void whateverWasToldSince() {
        DeedTortoise x = new DeedTortoise();
        x.seed(7);
        x.carry(2);
        x.seed(99);
        DUE.is("a draw told is nothing to be undone", x.count(6), 1);
        DUE.is("undo", x.undo(), 0);
        DUE.is("the draw as ahead of it", x.seed(0), 7);
        x.seed(7);
        x.lay(1, 1);
        x.seed(99);
        x.undo();
        DUE.is("the draw as ahead of a hedge", x.seed(0), 7);
        x.seed(7);
        x.lettuce(1, 1);
        x.seed(99);
        x.undo();
        DUE.is("the draw as ahead of lettuce", x.seed(0), 7);
        x.seed(7);
        x.days(1);
        x.seed(99);
        x.undo();
        DUE.is("the draw as ahead of a day", x.seed(0), 7);
    }

    private static void whatLeavesNothing() {
        leavesNothing("a valley", DeedTortoise::valley);
        leavesNothing("a new claim", x -> x.claim(0, 0, 1));
        leavesNothing("another kind", x -> x.field(1, 0));
        leavesNothing("the same kind", x -> x.field(1, STUBBLE));
    }

    private static void leavesNothing(String what, Twins.Call call) {
        DeedTortoise x = new DeedTortoise();
        Twins.busy(x);
        DUE.is("known ahead of " + what, x.count(6), 8);
        DUE.isTrue(what + " is taken", call.on(x) >= 0);
        DUE.is("known behind " + what, x.count(6), 0);
        DUE.is("undo behind " + what, x.undo(), -4);
    }

    private static void whatLeavesAll() {
        DeedTortoise x = new DeedTortoise();
        Twins.busy(x);
        x.carry(3);
        x.lay(3, 2);
        x.days(0);
        x.field(1, 5);
        x.claim(3, 2, 1);
        x.type('x');
        x.valley();
        x.image();
        x.seed(1);
        x.sheet(0, 0, 1);
        x.drop(0);
        DUE.is("eight are known yet", x.count(6), 8);
        DUE.is("the latest one", x.undo(), 7);
        DUE.is("where it is", x.count(1), 6);
    }

    private static void theDrawIsTold() {
        BUSY.tooSmall("seed(v)", 0, DeedTortoise::seed);
        FRESH.is("what it was at first", 1, x -> x.seed(0));
        DeedTortoise x = new DeedTortoise();
        x.seed(0);
        DUE.is("the least", x.seed(LAST_DRAW), 0);
        DUE.is("the most", x.seed(5), LAST_DRAW);
        DUE.is("nothing else is changed: the day", x.count(2), 0);
    }
}
