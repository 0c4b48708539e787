/** Sentence by sentence the edges of part 1 and of promises 1 to 5 and 8. */
public final class EdgesOfFields {
    private static final int MEADOW = 0, CLOVER = 1, STUBBLE = 2, GARDEN = 3, LANE = 4;
    private static final Due DUE = new Due();
    private static final Twins BUSY = new Twins(DUE, Twins::busy);

    public static void main(String[] args) {
        sevenMeadowsAtFirst();
        nothingElseAtFirst();
        aMeadowWhateverItsFood();
        cloverLessHalfOfFoodCut();
        stubbleTwoMoreWithoutFood();
        aGardenThreeLessButOneAtLeast();
        aLaneTwoMoreThanStubble();
        noWayOnFromTheLastField();
        noWayBackFromTheFirstField();
        backAsMuchAsTheHedge();
        backNoMoreThanOnLeaves();
        kindsOfFields();
        claimsFromOneToAnother();
        claimsAreFiveAtMost();
        aFullRefusesBadNumbersFirst();
        whatIsAskedOfFields();
        whatIsAskedOfClaims();
        whatIsCounted();
        DUE.end();
    }

    /** A valley in which the field is of the kind and has so much food and such a hedge. */
    private static DeedTortoise made(int field, int kind, int food, int hedge) {
        DeedTortoise x = new DeedTortoise();
        x.field(field, kind);
        if (food > 0) {
            x.lettuce(field, food);
        }
        if (hedge > 0) {
            x.lay(field, hedge);
        }
        return x;
    }

    private static void on(int field, int kind, int food, int want) {
        DUE.is("on from " + field + " of kind " + kind + ", food " + food, made(field, kind, food, 0).of(field, 3), want);
    }

    private static void back(int field, int kind, int food, int hedge, int want) {
        String what = "back from " + field + " of kind " + kind + ", food " + food + ", hedge " + hedge;
        DUE.is(what, made(field, kind, food, hedge).of(field, 4), want);
    }

    private static void sevenMeadowsAtFirst() {
        DeedTortoise x = new DeedTortoise();
        for (int f = 0; f < 7; f++) {
            DUE.is("kind of " + f + " at first", x.of(f, 0), MEADOW);
            DUE.is("food of " + f + " at first", x.of(f, 1), 0);
            DUE.is("hedge of " + f + " at first", x.of(f, 2), 0);
        }
        DUE.is("an eighth field", x.of(7, 0), -1);
        DUE.is("the tortoise is on the first one", x.count(1), 0);
    }

    private static void nothingElseAtFirst() {
        DUE.is("no claims at first", new DeedTortoise().count(0), 0);
        DUE.is("no claims on its field at first", new DeedTortoise().count(5), 0);
        DUE.is("day 0 at first", new DeedTortoise().count(2), 0);
        DUE.is("nothing to be undone at first", new DeedTortoise().count(6), 0);
        DUE.is("the draw is 1 at first", new DeedTortoise().seed(0), 1);
        DUE.is("no image at first", new DeedTortoise().restore(), -4);
        DUE.is("an empty tape at first", new DeedTortoise().type('x'), 1);
        for (int s = 0; s < 4; s++) {
            DUE.is("sheet " + s + " holds nothing at first", new DeedTortoise().drop(s), -11);
        }
    }

    private static void aMeadowWhateverItsFood() {
        for (int food = 0; food <= 9; food++) {
            on(0, MEADOW, food, 5);
            on(5, MEADOW, food, 5);
        }
    }

    private static void cloverLessHalfOfFoodCut() {
        int[] want = {5, 5, 4, 4, 3, 3, 2, 2, 1, 1};
        for (int food = 0; food <= 9; food++) {
            on(3, CLOVER, food, want[food]);
        }
    }

    private static void stubbleTwoMoreWithoutFood() {
        on(3, STUBBLE, 0, 7);
        on(3, STUBBLE, 1, 5);
        on(3, STUBBLE, 9, 5);
    }

    private static void aGardenThreeLessButOneAtLeast() {
        on(3, GARDEN, 0, 2);
        on(3, GARDEN, 1, 2);
        on(3, GARDEN, 2, 1);
        on(3, GARDEN, 3, 1);
        on(3, GARDEN, 4, 1);
        on(3, GARDEN, 6, 1);
        on(3, GARDEN, 9, 1);
    }

    private static void aLaneTwoMoreThanStubble() {
        on(3, LANE, 0, 9);
        on(3, LANE, 1, 7);
        on(3, LANE, 9, 7);
    }

    private static void noWayOnFromTheLastField() {
        for (int kind = MEADOW; kind <= LANE; kind++) {
            on(6, kind, 0, 0);
            on(6, kind, 9, 0);
            DUE.isTrue("on from the field before the last, kind " + kind, made(5, kind, 0, 0).of(5, 3) > 0);
            DeedTortoise x = made(6, kind, 0, 0);
            x.carry(6);
            DUE.is("it stays on the last field, of kind " + kind, x.days(40), 6);
        }
    }

    private static void noWayBackFromTheFirstField() {
        for (int kind = MEADOW; kind <= LANE; kind++) {
            back(0, kind, 9, 4, 0);
            back(0, kind, 0, 1, 0);
        }
        back(1, MEADOW, 0, 4, 4);
        back(1, MEADOW, 0, 1, 1);
        DeedTortoise x = made(0, MEADOW, 0, 4);
        x.seed(Due.drawAheadOf(5));
        DUE.is("it stays on the first field", x.days(1), 0);
    }

    private static void backAsMuchAsTheHedge() {
        for (int hedge = 0; hedge <= 4; hedge++) {
            back(3, MEADOW, 0, hedge, hedge);
            back(3, CLOVER, 9, hedge, hedge);
            back(3, GARDEN, 0, hedge, hedge);
            back(6, LANE, 0, hedge, hedge);
        }
    }

    private static void backNoMoreThanOnLeaves() {
        int[] leftByLane = {0, 1, 1, 1, 1};
        int[] leftByStubble = {0, 1, 2, 3, 3};
        for (int hedge = 0; hedge <= 4; hedge++) {
            back(3, LANE, 0, hedge, leftByLane[hedge]);
            back(3, LANE, 1, hedge, leftByStubble[hedge]);
            back(3, STUBBLE, 0, hedge, leftByStubble[hedge]);
            back(3, STUBBLE, 1, hedge, hedge);
        }
    }

    private static void kindsOfFields() {
        BUSY.bounds("field(field, 1)", 0, 6, (x, f) -> x.field(f, 1));
        BUSY.bounds("field(3, kind)", 0, 4, (x, k) -> x.field(3, k));
        BUSY.is("of which it was: the first kind", MEADOW, x -> x.field(2, LANE));
        BUSY.is("of which it was: the last kind", LANE, x -> x.field(4, MEADOW));
        BUSY.is("of which it was: the same", STUBBLE, x -> x.field(1, STUBBLE));
        for (int kind = MEADOW; kind <= LANE; kind++) {
            DUE.is("the first field becomes of kind", made(0, kind, 0, 0).of(0, 0), kind);
            DUE.is("the last field becomes of kind", made(6, kind, 0, 0).of(6, 0), kind);
            DUE.is("the field next to it stays", made(6, kind, 0, 0).of(5, 0), MEADOW);
        }
    }

    private static void claimsFromOneToAnother() {
        BUSY.bounds("claim(from, 6, 1)", 0, 6, (x, f) -> x.claim(f, 6, 1));
        BUSY.bounds("claim(0, to, 1)", 0, 6, (x, t) -> x.claim(0, t, 1));
        BUSY.bounds("claim(3, to, 1)", 3, 6, (x, t) -> x.claim(3, t, 1));
        BUSY.bounds("claim(6, to, 1)", 6, 6, (x, t) -> x.claim(6, t, 1));
        BUSY.bounds("claim(2, 4, worth)", 1, 99, (x, w) -> x.claim(2, 4, w));
        BUSY.is("its number", 2, x -> x.claim(0, 0, 1));
        DUE.is("the first one's number", new DeedTortoise().claim(0, 0, 1), 0);
    }

    private static void fiveClaims(DeedTortoise x) {
        Twins.busy(x);
        for (int c = 2; c < 5; c++) {
            DUE.is("claim " + c, x.claim(c, 6, 90 + c), c);
        }
        x.carry(0);
    }

    private static void claimsAreFiveAtMost() {
        Twins full = new Twins(DUE, EdgesOfFields::fiveClaims);
        full.stays("a sixth claim", -3, x -> x.claim(0, 6, 1));
        full.is("the fifth one stands", 94, x -> x.at(4, 2));
        full.is("no sixth one stands", -1, x -> x.at(5, 2));
    }

    private static void aFullRefusesBadNumbersFirst() {
        Twins full = new Twins(DUE, EdgesOfFields::fiveClaims);
        full.stays("BAD ahead of FULL: from", -1, x -> x.claim(-1, 6, 1));
        full.stays("BAD ahead of FULL: from", -1, x -> x.claim(7, 7, 1));
        full.stays("BAD ahead of FULL: to", -1, x -> x.claim(3, 2, 1));
        full.stays("BAD ahead of FULL: to", -1, x -> x.claim(3, 7, 1));
        full.stays("BAD ahead of FULL: worth", -1, x -> x.claim(3, 3, 0));
        full.stays("BAD ahead of FULL: worth", -1, x -> x.claim(3, 3, 100));
    }

    private static void whatIsAskedOfFields() {
        for (int what = 0; what <= 4; what++) {
            int asked = what;
            BUSY.bounds("of(field, " + what + ")", 0, 6, (x, f) -> x.of(f, asked));
        }
        BUSY.bounds("of(3, what)", 0, 4, (x, w) -> x.of(3, w));
        BUSY.stays("of() changes nothing", 7, x -> x.of(3, 1));
    }

    private static void whatIsAskedOfClaims() {
        BUSY.bounds("at(claim, 0) of two", 0, 1, (x, c) -> x.at(c, 0));
        BUSY.bounds("at(1, what)", 0, 2, (x, w) -> x.at(1, w));
        BUSY.stays("at() changes nothing", 99, x -> x.at(1, 2));
        DUE.is("at(0, 0) without claims", new DeedTortoise().at(0, 0), -1);
        Twins full = new Twins(DUE, EdgesOfFields::fiveClaims);
        full.bounds("at(claim, 2) of five", 0, 4, (x, c) -> x.at(c, 2));
    }

    private static void whatIsCounted() {
        BUSY.bounds("count(what)", 0, 6, DeedTortoise::count);
        BUSY.stays("count() changes nothing", 6, x -> x.count(2));
        DeedTortoise x = new DeedTortoise();
        Due.valley(x, "3:m9#4m9#4m9#4m9#4m9#4m9#4m9#4;0-6=1,3-3=1,0-2=1,4-6=1,2-3=1");
        DUE.is("all food, full", x.count(3), 63);
        DUE.is("all hedges, full", x.count(4), 28);
        DUE.is("claims, full", x.count(0), 5);
        DUE.is("claims on its field: from their first to their last one", x.count(5), 1 | 2 | 16);
        x.carry(2);
        DUE.is("claims on its field: ahead of the first", x.count(5), 1 | 4 | 16);
        x.carry(4);
        DUE.is("claims on its field: behind the last", x.count(5), 1 | 8);
        Due.valley(x, "6:mmmmmmm;6-6=1,6-6=1,6-6=1,6-6=1,6-6=1");
        DUE.is("all claims on its field", x.count(5), 31);
        DUE.is("no food", x.count(3), 0);
        DUE.is("no hedges", x.count(4), 0);
        DUE.is("the last field", x.count(1), 6);
    }
}
