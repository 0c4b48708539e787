/** Sentence by sentence the edges of promises 15 to 24. */
public final class EdgesOfForetelling {
    private static final Due DUE = new Due();
    private static final Twins BUSY = new Twins(DUE, Twins::busy);

    /** Seven meadows: each day it goes on by one half. */
    private static final Twins FRESH = new Twins(DUE, x -> { });

    /** On the first field, stubble with food of 1: by 5 of ten with it, by 7 if it were eaten. */
    private static final Twins STUBBLE = new Twins(DUE, x -> Due.valley(x, "0:s1mmmmmm;0-0=99,1-6=50"));

    /** On the last field. */
    private static final Twins LAST = new Twins(DUE, x -> Due.valley(x, "6:mmmmmmm;0-5=7,6-6=99"));

    public static void main(String[] args) {
        boundsOfChances();
        chancesAtTheEdges();
        chancesInLowestTerms();
        boundsOfLikeliest();
        ofLikeOnesTheFirst();
        boundsOfMeans();
        meansAtTheEdges();
        meansCountWhatLiesBehind();
        boundsOfRights();
        rightsAtTheEdges();
        pricesAreCut();
        sureFields();
        boundsOfDown();
        downOfLikeOnesTheFirst();
        downAtTheEdges();
        boundsOfKeep();
        keepByCOrMore();
        keepInTheValleyAsItIs();
        boundsOfEarly();
        earlyByCOrMore();
        nextDays();
        boundsOfWinters();
        wintersAtTheEdges();
        noWinterButWhereItIsToldOf();
        foodStaysAsItIs();
        nothingIsChanged();
        DUE.end();
    }

    /** The two numbers of a fraction, the second one asked for by 1 more than the first. */
    private static void fraction(Twins twins, String what, long above, long below, Twins.Open told, int first) {
        twins.is(what + ", above", above, x -> told.on(x, first));
        twins.is(what + ", below", below, x -> told.on(x, first + 1));
    }

    private static void chance(Twins twins, int field, int n, long above, long below) {
        fraction(twins, "chance(" + field + ", " + n + ")", above, below, (x, what) -> x.chance(field, n, what), 0);
    }

    private static void boundsOfChances() {
        BUSY.bounds("chance(field, 9, 0)", 0, 6, (x, f) -> x.chance(f, 9, 0));
        BUSY.bounds("chance(3, n, 0)", 0, 9, (x, n) -> x.chance(3, n, 0));
        BUSY.bounds("chance(3, 9, what)", 0, 1, (x, w) -> x.chance(3, 9, w));
    }

    private static void chancesAtTheEdges() {
        chance(FRESH, 0, 0, 1, 1);
        chance(FRESH, 1, 0, 0, 1);
        chance(FRESH, 6, 0, 0, 1);
        chance(FRESH, 6, 5, 0, 1);
        chance(FRESH, 6, 6, 1, 64);
        chance(FRESH, 0, 9, 1, 512);
        chance(LAST, 6, 9, 1, 1);
        chance(LAST, 0, 9, 0, 1);
        // back from the last field, none from the first one
        Twins ends = new Twins(DUE, x -> Due.valley(x, "6:m#4mmmmmm#4"));
        chance(ends, 5, 1, 2, 5);
        chance(ends, 6, 1, 3, 5);
        Twins start = new Twins(DUE, x -> Due.valley(x, "0:m#4mmmmmm#4"));
        chance(start, 0, 1, 1, 2);
    }

    private static void chancesInLowestTerms() {
        chance(FRESH, 1, 2, 1, 2);
        Twins lane = new Twins(DUE, x -> Due.valley(x, "0:lmmmmmm"));
        chance(lane, 0, 1, 1, 10);
        chance(lane, 0, 9, 1, 1000000000);
        chance(lane, 1, 1, 9, 10);
        Twins lanes = new Twins(DUE, x -> Due.valley(x, "0:lllllll"));
        // six or more of nine days by 9 of ten: 1 less (7440174 + 826686 + 61236 + 2916 + 81 + 1) of 10^9
        chance(lanes, 6, 9, 495834453, 500000000);
    }

    private static void boundsOfLikeliest() {
        BUSY.bounds("likely(n)", 0, 9, DeedTortoise::likely);
    }

    private static void ofLikeOnesTheFirst() {
        FRESH.is("its own, behind no day", 0, x -> x.likely(0));
        LAST.is("its own, the last one", 6, x -> x.likely(0));
        LAST.is("the last one, behind nine days", 6, x -> x.likely(9));
        FRESH.is("0 and 1 by one half each", 0, x -> x.likely(1));
        FRESH.is("1 and 2 by three eighths each", 1, x -> x.likely(3));
        FRESH.is("2 and 3 by ten of 32 each", 2, x -> x.likely(5));
        FRESH.is("3 alone by 20 of 64", 3, x -> x.likely(6));
    }

    private static void mean(Twins twins, int field, long above, long below) {
        fraction(twins, "mean(" + field + ")", above, below, (x, what) -> x.mean(field, what), 0);
    }

    private static void boundsOfMeans() {
        BUSY.bounds("mean(field, 0), the tortoise on 3", 3, 6, (x, f) -> x.mean(f, 0));
        BUSY.stays("mean(0, 0), the tortoise on 3", -1, x -> x.mean(0, 0));
        FRESH.bounds("mean(field, 0), the tortoise on 0", 0, 6, (x, f) -> x.mean(f, 0));
        LAST.bounds("mean(field, 0), the tortoise on 6", 6, 6, (x, f) -> x.mean(f, 0));
        BUSY.bounds("mean(3, what)", 0, 1, (x, w) -> x.mean(3, w));
        BUSY.bounds("mean(6, what)", 0, 1, (x, w) -> x.mean(6, w));
    }

    private static void meansAtTheEdges() {
        mean(FRESH, 0, 0, 1);
        mean(LAST, 6, 0, 1);
        mean(BUSY, 3, 0, 1);
        mean(FRESH, 1, 2, 1);
        mean(FRESH, 6, 12, 1);
        Twins lane = new Twins(DUE, x -> Due.valley(x, "0:lmmmmmm"));
        mean(lane, 1, 10, 9);
        Twins longest = new Twins(DUE, x -> Due.valley(x, "0:g9#4g9#4g9#4g9#4g9#4g9#4g9#4"));
        // 10, then 10 and 4 times the days before: 10, 50, 210, 850, 3410, 13650
        mean(longest, 6, 18180, 1);
        Twins lanes = new Twins(DUE, x -> Due.valley(x, "0:l#4l#4l#4l#4l#4l#4l#4"));
        // 10/9, then a ninth of 10 and the days before
        mean(lanes, 6, 3902770, 531441);
    }

    private static void meansCountWhatLiesBehind() {
        // on field 2 it goes back by 4 of ten, and needs 10/9 days from 1: (10 + 4 * 10/9) / 5
        Twins behind = new Twins(DUE, x -> Due.valley(x, "2:mlm#4mmmm"));
        mean(behind, 3, 26, 9);
        // a hedge on the field that it is to be on, or behind it, is nothing to it
        Twins there = new Twins(DUE, x -> Due.valley(x, "2:mmmm#4m#4mm"));
        mean(there, 3, 2, 1);
        // nor one on the first field
        Twins first = new Twins(DUE, x -> Due.valley(x, "0:m#4mmmmmm"));
        mean(first, 1, 2, 1);
    }

    private static void right(Twins twins, int claim, int n, long above, long below) {
        fraction(twins, "right(" + claim + ", " + n + ")", above, below, (x, what) -> x.right(claim, n, what), 0);
    }

    private static void boundsOfRights() {
        BUSY.bounds("right(claim, 9, 0) of two", 0, 1, (x, c) -> x.right(c, 9, 0));
        BUSY.bounds("right(1, n, 0)", 0, 9, (x, n) -> x.right(1, n, 0));
        BUSY.bounds("right(1, 9, what)", 0, 2, (x, w) -> x.right(1, 9, w));
        FRESH.stays("right(0, 0, 0) without claims", -1, x -> x.right(0, 0, 0));
        FRESH.stays("right(-1, 0, 0) without claims", -1, x -> x.right(-1, 0, 0));
        Twins five = new Twins(DUE, x -> Due.valley(x, "0:mmmmmmm;0-0=1,0-0=1,0-0=1,0-0=1,6-6=9"));
        five.bounds("right(claim, 0, 1) of five", 0, 4, (x, c) -> x.right(c, 0, 1));
    }

    private static void rightsAtTheEdges() {
        right(LAST, 0, 9, 0, 1);
        right(LAST, 1, 9, 1, 1);
        right(STUBBLE, 0, 0, 1, 1);
        right(STUBBLE, 1, 0, 0, 1);
        right(STUBBLE, 1, 1, 1, 2);
        Twins claims = new Twins(DUE, x -> Due.valley(x, "1:mmmmmmm;0-1=1,2-3=1,3-4=1,4-6=1,0-6=1"));
        // behind three days it is on 1 to 4 by 1, 3, 3, 1 of 8
        right(claims, 0, 3, 1, 8);
        right(claims, 1, 3, 3, 4);
        right(claims, 2, 3, 1, 2);
        right(claims, 3, 3, 1, 8);
        right(claims, 4, 3, 1, 1);
    }

    private static void pricesAreCut() {
        LAST.is("the price of what is sure", 99, x -> x.right(1, 9, 2));
        LAST.is("the price of what can't be", 0, x -> x.right(0, 9, 2));
        STUBBLE.is("99 by one half", 49, x -> x.right(0, 1, 2));
        STUBBLE.is("50 by one half", 25, x -> x.right(1, 1, 2));
        STUBBLE.is("99 by 1 of 64", 1, x -> x.right(0, 6, 2));
        STUBBLE.is("99 by 1 of 128", 0, x -> x.right(0, 7, 2));
        STUBBLE.is("50 by 511 of 512", 49, x -> x.right(1, 9, 2));
    }

    private static void sureFields() {
        BUSY.bounds("sure(n)", 0, 9, DeedTortoise::sure);
        FRESH.is("its own behind no day", 1, x -> x.sure(0));
        FRESH.is("its own and the next one", 3, x -> x.sure(1));
        FRESH.is("all but the last one", 63, x -> x.sure(5));
        FRESH.is("all", 127, x -> x.sure(6));
        FRESH.is("all", 127, x -> x.sure(9));
        LAST.is("the last one", 64, x -> x.sure(9));
        Twins moved = new Twins(DUE, x -> Due.valley(x, "3:mm#1ml#1m#4mm"));
        moved.is("it can't stay", 4 | 16, x -> x.sure(1));
        Twins rare = new Twins(DUE, x -> Due.valley(x, "0:lmmmmmm"));
        rare.is("by one of a thousand million", 1, x -> x.sure(9) & 1);
    }

    private static void down(Twins twins, int field, int hedge, long above, long below) {
        twins.is("down(" + field + ")", hedge, x -> x.down(field, 0));
        fraction(twins, "down(" + field + ")", above, below, (x, what) -> x.down(field, what), 1);
    }

    private static void boundsOfDown() {
        BUSY.bounds("down(field, 0), the tortoise on 3", 3, 6, (x, f) -> x.down(f, 0));
        BUSY.stays("down(0, 0), the tortoise on 3", -1, x -> x.down(0, 0));
        FRESH.bounds("down(field, 1), the tortoise on 0", 0, 6, (x, f) -> x.down(f, 1));
        LAST.bounds("down(field, 0), the tortoise on 6", 6, 6, (x, f) -> x.down(f, 0));
        BUSY.bounds("down(6, what)", 0, 2, (x, w) -> x.down(6, w));
    }

    private static void downOfLikeOnesTheFirst() {
        down(FRESH, 6, 0, 12, 1);
        // hedges on the first field and from that on where it is to be hold nothing up
        down(new Twins(DUE, x -> Due.valley(x, "0:m#4mmm#4mmm")), 3, 0, 6, 1);
        // 2, 2, 12/5, 2, 12/5, 2 days: without one of both hedges 62/5 alike
        down(new Twins(DUE, x -> Due.valley(x, "0:mmm#1mm#1mm")), 6, 2, 62, 5);
        // the higher one, behind or ahead
        down(new Twins(DUE, x -> Due.valley(x, "0:mmm#1mm#2mm")), 6, 4, 62, 5);
        down(new Twins(DUE, x -> Due.valley(x, "0:mmm#2mm#1mm")), 6, 2, 62, 5);
        down(new Twins(DUE, x -> Due.valley(x, "0:mmmmmm#4m")), 6, 5, 12, 1);
        down(new Twins(DUE, x -> Due.valley(x, "0:mm#4mmmmm")), 6, 1, 12, 1);
    }

    private static void downAtTheEdges() {
        down(FRESH, 0, 0, 0, 1);
        down(LAST, 6, 0, 0, 1);
        down(BUSY, 3, 0, 0, 1);
        // a hedge below its own field counts only by that on its own: without that of 2, 2 days; of 1, (10 + 2) / 5
        down(new Twins(DUE, x -> Due.valley(x, "2:mm#4m#1mmmm")), 3, 2, 2, 1);
        // 1: (10 + 8) / 5 days; 2: (10 + 4 * 18/5) / 5, or without that of 1 (10 + 8) / 5, without its own 2
        down(new Twins(DUE, x -> Due.valley(x, "2:mm#4m#4mmmm")), 3, 2, 2, 1);
        // from a lane it goes back by 1 of ten, whatever the hedge: 2, (10 + 2) / 9, 2 days without that of 2
        down(new Twins(DUE, x -> Due.valley(x, "0:ml#4m#2mmmm")), 3, 2, 16, 3);
    }

    private static void boundsOfKeep() {
        BUSY.bounds("keep(n, 50)", 1, 9, (x, n) -> x.keep(n, 50));
        BUSY.bounds("keep(9, c)", 0, 100, (x, c) -> x.keep(9, c));
    }

    private static void keepByCOrMore() {
        Twins clover = new Twins(DUE, x -> Due.valley(x, "0:c9mmmmmm"));
        clover.is("by 50: without food", 0, x -> x.keep(1, 50));
        clover.is("by 51: 2", 2, x -> x.keep(1, 51));
        clover.is("by 60: 2", 2, x -> x.keep(1, 60));
        clover.is("by 61: 4", 4, x -> x.keep(1, 61));
        clover.is("by 90: 8", 8, x -> x.keep(1, 90));
        clover.stays("by 91: none", -4, x -> x.keep(1, 91));
        clover.stays("by 100: none", -4, x -> x.keep(1, 100));
        clover.is("by 0: without food", 0, x -> x.keep(1, 0));
        clover.is("nine days by 38: 8", 8, x -> x.keep(9, 38));
        clover.is("nine days by 39: none", -4, x -> x.keep(9, 39));
        STUBBLE.is("by 30: without food", 0, x -> x.keep(1, 30));
        STUBBLE.is("by 31: 1", 1, x -> x.keep(1, 31));
        STUBBLE.is("two days by 25: 1, which stays", 1, x -> x.keep(2, 25));
        STUBBLE.is("two days by 26: none", -4, x -> x.keep(2, 26));
        LAST.is("on the last field", 0, x -> x.keep(9, 100));
        FRESH.is("a meadow keeps it by one half", 0, x -> x.keep(1, 50));
        FRESH.is("and no more", -4, x -> x.keep(1, 51));
        // it goes on by one half and comes back by 4 of ten: 25 and 20 of 100
        Twins back = new Twins(DUE, x -> Due.valley(x, "0:mm#4mmmmm"));
        back.is("as it comes back", 0, x -> x.keep(2, 45));
        back.is("and no more", -4, x -> x.keep(2, 46));
    }

    private static void keepInTheValleyAsItIs() {
        DeedTortoise x = new DeedTortoise();
        DUE.is("a meadow", x.keep(1, 60), -4);
        x.field(0, 1);
        DUE.is("another kind", x.keep(1, 60), 2);
        x.lay(1, 4);
        DUE.is("a hedge, behind which it comes back", x.keep(2, 45), 0);
        x.carry(1);
        DUE.is("another field of its own", x.keep(1, 50), -4);
        x.undo();
        x.undo();
        DUE.is("undone", x.keep(2, 45), 4);
    }

    private static void boundsOfEarly() {
        BUSY.bounds("early(field, 0)", 0, 6, (x, f) -> x.early(f, 0));
        BUSY.bounds("early(3, c)", 0, 100, (x, c) -> x.early(3, c));
    }

    private static void earlyByCOrMore() {
        FRESH.is("its own", 0, x -> x.early(0, 100));
        FRESH.is("by 0", 0, x -> x.early(6, 0));
        LAST.is("by 0, a field below its own", 0, x -> x.early(0, 0));
        LAST.stays("by 1, a field below its own", -4, x -> x.early(0, 1));
        FRESH.is("by 50, and on the second day, too: the first one", 1, x -> x.early(1, 50));
        FRESH.stays("by 51", -4, x -> x.early(1, 51));
        FRESH.is("by 1 of 64", 6, x -> x.early(6, 1));
        FRESH.is("by 2: 8 of 128", 7, x -> x.early(6, 2));
        FRESH.is("by 25: 65 of 256 on the last day", 9, x -> x.early(6, 25));
        FRESH.stays("by 26", -4, x -> x.early(6, 26));
        FRESH.stays("by 100", -4, x -> x.early(6, 100));
        Twins lane = new Twins(DUE, x -> Due.valley(x, "5:mmmmmlm"));
        lane.is("by 90", 1, x -> x.early(6, 90));
        lane.is("by 91", 2, x -> x.early(6, 91));
        lane.is("by 99", 2, x -> x.early(6, 99));
        lane.is("by 100", -4, x -> x.early(6, 100));
    }

    private static void nextDays() {
        BUSY.bounds("next(n)", 0, 40, DeedTortoise::next);
        BUSY.is("behind no day", 3, x -> x.next(0));
        LAST.is("behind 40 days", 6, x -> x.next(40));
        for (int n = 1; n <= 40; n++) {
            int days = n;
            DeedTortoise x = new DeedTortoise();
            Twins.busy(x);
            BUSY.is("next(" + n + ")", x.days(n), y -> y.next(days));
        }
        Twins eats = new Twins(DUE, x -> {
            Due.valley(x, "3:mmms1mmm");
            x.seed(Due.drawAheadOf(9, 6));
        });
        eats.is("it stays and eats", 3, x -> x.next(1));
        eats.is("by what it ate, it goes on", 4, x -> x.next(2));
        eats.stays("the draw as it is, again", 4, x -> x.next(2));
    }

    private static void winter(Twins twins, int field, int n, int c, long above, long below) {
        String call = "winter(" + field + ", " + n + ", " + c + ")";
        fraction(twins, call, above, below, (x, what) -> x.winter(field, n, c, what), 0);
    }

    private static void boundsOfWinters() {
        BUSY.bounds("winter(field, 4, 5, 0)", 0, 6, (x, f) -> x.winter(f, 4, 5, 0));
        BUSY.bounds("winter(3, n, 5, 0)", 0, 4, (x, n) -> x.winter(3, n, 5, 0));
        BUSY.bounds("winter(3, 4, c, 0)", 0, 10, (x, c) -> x.winter(3, 4, c, 0));
        BUSY.bounds("winter(3, 4, 5, what)", 0, 1, (x, w) -> x.winter(3, 4, 5, w));
    }

    private static void wintersAtTheEdges() {
        winter(FRESH, 0, 0, 5, 1, 1);
        winter(FRESH, 1, 0, 5, 0, 1);
        winter(FRESH, 0, 4, 0, 1, 16);
        winter(FRESH, 4, 4, 0, 1, 16);
        winter(FRESH, 5, 4, 0, 0, 1);
        winter(FRESH, 0, 4, 10, 1, 1);
        winter(FRESH, 1, 4, 10, 0, 1);
        winter(FRESH, 0, 1, 5, 3, 4);
        // apart: 3/4 and 3/4, not 1/2 and 1/2 by 1/4
        winter(FRESH, 0, 2, 5, 9, 16);
        winter(FRESH, 1, 2, 5, 3, 8);
        winter(FRESH, 1, 1, 9, 1, 20);
        Twins lane = new Twins(DUE, x -> Due.valley(x, "0:lmmmmmm"));
        // 19 of 100 each day
        winter(lane, 0, 4, 1, 130321, 100000000);
        winter(LAST, 6, 4, 3, 1, 1);
        // back by 4 of ten, awake by half
        winter(new Twins(DUE, x -> Due.valley(x, "6:mmmmmmm#4")), 5, 1, 5, 1, 5);
    }

    /** One object answers all, so that a winter told of could stay with it. */
    private static void noWinterButWhereItIsToldOf() {
        DeedTortoise x = new DeedTortoise();
        x.claim(0, 0, 99);
        x.sheet(0, 0, 1);
        DUE.is("winter", x.winter(0, 4, 10, 0), 1);
        DUE.is("chance", x.chance(0, 1, 1), 2);
        x.winter(0, 4, 10, 0);
        DUE.is("likely", x.likely(2), 1);
        x.winter(0, 4, 10, 0);
        DUE.is("mean", x.mean(1, 0), 2);
        x.winter(0, 4, 10, 0);
        DUE.is("right", x.right(0, 1, 2), 49);
        x.winter(0, 4, 10, 0);
        DUE.is("sure", x.sure(1), 3);
        x.winter(0, 4, 10, 0);
        DUE.is("down", x.down(1, 1), 2);
        x.winter(0, 4, 10, 0);
        DUE.is("keep", x.keep(1, 51), -4);
        x.winter(0, 4, 10, 0);
        DUE.is("early", x.early(1, 50), 1);
        x.winter(0, 4, 10, 0);
        DUE.is("seen", x.seen(0, 0, 0, 1, 1), 2);
    }

    private static void foodStaysAsItIs() {
        chance(STUBBLE, 0, 9, 1, 512);
        chance(STUBBLE, 0, 2, 1, 4);
        mean(STUBBLE, 1, 2, 1);
        mean(STUBBLE, 6, 12, 1);
        right(STUBBLE, 0, 2, 1, 4);
        STUBBLE.is("price", 24, x -> x.right(0, 2, 2));
        down(STUBBLE, 1, 0, 2, 1);
        STUBBLE.is("early", 9, x -> x.early(6, 25));
        STUBBLE.is("early", -4, x -> x.early(6, 26));
        winter(STUBBLE, 0, 2, 0, 1, 4);
        // clover of 4 goes on by 3, of 3 by 4: 49, 36 of 100; if it ate, 42, 43
        Twins clover = new Twins(DUE, x -> Due.valley(x, "1:mc4mmmmm"));
        clover.is("likely", 1, x -> x.likely(2));
    }

    private static void nothingIsChanged() {
        BUSY.leaves("chance()", x -> x.chance(4, 9, 0));
        BUSY.leaves("likely()", x -> x.likely(9));
        BUSY.leaves("mean()", x -> x.mean(6, 0));
        BUSY.leaves("right()", x -> x.right(1, 9, 2));
        BUSY.leaves("sure()", x -> x.sure(9));
        BUSY.leaves("down()", x -> x.down(6, 0));
        BUSY.leaves("keep()", x -> x.keep(9, 1));
        BUSY.leaves("early()", x -> x.early(4, 10));
        BUSY.leaves("next()", x -> x.next(40));
        BUSY.leaves("winter()", x -> x.winter(4, 4, 5, 0));
    }
}
