/** Promises 15 to 24: chance, likely, mean, right, sure, down, keep, early, next, winter. */
public final class Foretold {
    private static final Due DUE = new Due();

    public static void main(String[] args) {
        chances();
        likeliest();
        means();
        rights();
        sureFields();
        hedgesDown();
        lettuceThatKeeps();
        earlyDays();
        nextDays();
        winters();
        nothingIsChanged();
        DUE.end();
    }

    private static void fraction(String what, long above, long below, long wantAbove, long wantBelow) {
        DUE.is(what + ", above", above, wantAbove);
        DUE.is(what + ", below", below, wantBelow);
    }

    private static void chance(DeedTortoise x, int field, int n, int above, int below) {
        fraction("chance(" + field + ", " + n + ")", x.chance(field, n, 0), x.chance(field, n, 1), above, below);
    }

    private static void chances() {
        DeedTortoise x = new DeedTortoise();
        chance(x, 0, 0, 1, 1);
        chance(x, 1, 0, 0, 1);
        chance(x, 0, 1, 1, 2);
        chance(x, 1, 2, 1, 2);
        chance(x, 0, 9, 1, 512);
        chance(x, 6, 5, 0, 1);
        x.field(0, 4);
        chance(x, 0, 1, 1, 10);
        chance(x, 0, 9, 1, 1000000000);
        x.lettuce(0, 1);
        chance(x, 0, 2, 9, 100);
        x.carry(1);
        x.lay(1, 2);
        chance(x, 0, 1, 1, 5);
        chance(x, 1, 1, 3, 10);
        chance(x, 1, 2, 3 * 3 + 2 * 7, 100);
        DUE.bad("chance", x.chance(-1, 0, 0), x.chance(7, 0, 0), x.chance(0, -1, 0), x.chance(0, 10, 0),
            x.chance(0, 0, -1), x.chance(0, 0, 2), x.chance(0, Integer.MAX_VALUE, 0));
    }

    private static void likeliest() {
        DeedTortoise x = new DeedTortoise();
        DUE.is("likely(0)", x.likely(0), 0);
        DUE.is("of like ones the first", x.likely(1), 0);
        DUE.is("likely(2)", x.likely(2), 1);
        DUE.is("likely(9)", x.likely(9), 6);
        x.field(0, 4);
        DUE.is("by a lane", x.likely(1), 1);
        x.carry(6);
        DUE.is("on the last one", x.likely(9), 6);
        DUE.bad("likely", x.likely(-1), x.likely(10), x.likely(Integer.MIN_VALUE));
    }

    private static void mean(DeedTortoise x, int field, long above, long below) {
        fraction("mean(" + field + ")", x.mean(field, 0), x.mean(field, 1), above, below);
    }

    private static void means() {
        DeedTortoise x = new DeedTortoise();
        mean(x, 0, 0, 1);
        mean(x, 1, 2, 1);
        mean(x, 6, 12, 1);
        x.field(0, 4);
        mean(x, 1, 10, 9);
        mean(x, 2, 28, 9);
        x.carry(1);
        x.lay(1, 4);
        mean(x, 1, 0, 1);
        // from 1: (10 + 4 * 10/9) / 5
        mean(x, 2, 26, 9);
        DUE.bad("mean", x.mean(0, 0), x.mean(-1, 0), x.mean(7, 0), x.mean(2, -1), x.mean(2, 2),
            x.mean(Integer.MAX_VALUE, 0));
        Due.valley(x, "0:g9#4g9#4g9#4g9#4g9#4g9#4g9#4");
        mean(x, 6, 10 + 50 + 210 + 850 + 3410 + 13650, 1);
        Due.valley(x, "0:lllllll");
        mean(x, 6, 20, 3);
        Due.valley(x, "0:l#4l#4l#4l#4l#4l#4l#4");
        // 10/9, then (10 and one more of the days before) by 9: 590490 + 656100 + 663390 + 664200 + 664290 + 664300
        mean(x, 6, 3902770, 531441);
    }

    private static void rights() {
        DeedTortoise x = new DeedTortoise();
        DUE.bad("right without claims", x.right(0, 0, 0));
        x.claim(0, 0, 99);
        x.claim(1, 2, 7);
        x.claim(6, 6, 50);
        fraction("right(0, 3)", x.right(0, 3, 0), x.right(0, 3, 1), 1, 8);
        DUE.is("price, cut", x.right(0, 3, 2), 12);
        fraction("right(1, 3)", x.right(1, 3, 0), x.right(1, 3, 1), 3, 4);
        DUE.is("price, cut", x.right(1, 3, 2), 5);
        fraction("right(2, 3)", x.right(2, 3, 0), x.right(2, 3, 1), 0, 1);
        DUE.is("price of nothing", x.right(2, 3, 2), 0);
        DUE.is("price of all", x.right(0, 0, 2), 99);
        DUE.bad("right", x.right(-1, 0, 0), x.right(3, 0, 0), x.right(0, -1, 0), x.right(0, 10, 0),
            x.right(0, 0, -1), x.right(0, 0, 3));
        Due.valley(x, "0:lllllll;0-6=99");
        fraction("right of all fields", x.right(0, 9, 0), x.right(0, 9, 1), 1, 1);
        DUE.is("price of all fields", x.right(0, 9, 2), 99);
    }

    private static void sureFields() {
        DeedTortoise x = new DeedTortoise();
        for (int n = 0; n < 10; n++) {
            DUE.is("sure(" + n + ")", x.sure(n), (1 << Math.min(n + 1, 7)) - 1);
        }
        DUE.bad("sure", x.sure(-1), x.sure(10));
        Due.valley(x, "3:mmml#1m#4mm");
        DUE.is("it never stays", x.sure(1), 1 << 2 | 1 << 4);
        Due.valley(x, "6:mmmmmmm");
        DUE.is("it stays at the last one", x.sure(9), 1 << 6);
    }

    private static void hedgesDown() {
        DeedTortoise x = new DeedTortoise();
        DUE.is("of like ones the first", x.down(6, 0), 0);
        fraction("down(6)", x.down(6, 1), x.down(6, 2), 12, 1);
        x.lay(0, 4);
        x.lay(6, 4);
        DUE.is("those of the first and last hold nothing up", x.down(6, 0), 0);
        x.lay(3, 1);
        x.lay(5, 1);
        // hedges of 1 on 3 and on 5: 2, 2, 2, 12/5, 2, 12/5 days; without that on 3 or on 5 alike
        DUE.is("of like ones the first", x.down(6, 0), 3);
        fraction("down(6)", x.down(6, 1), x.down(6, 2), 62, 5);
        x.lay(5, 2);
        DUE.is("the higher one", x.down(6, 0), 5);
        x.carry(4);
        DUE.is("down(4)", x.down(4, 0), 0);
        fraction("down(4)", x.down(4, 1), x.down(4, 2), 0, 1);
        DUE.is("down(5): that on 4 is none, that on 3 lies behind it", x.down(5, 0), 0);
        x.lay(4, 1);
        DUE.is("down(5)", x.down(5, 0), 4);
        fraction("down(5)", x.down(5, 1), x.down(5, 2), 2, 1);
        DUE.bad("down", x.down(3, 0), x.down(7, 0), x.down(-1, 0), x.down(4, -1), x.down(4, 3));
        DUE.is("hedges stay", x.count(4), 4 + 4 + 1 + 2 + 1);
    }

    private static void lettuceThatKeeps() {
        DeedTortoise x = new DeedTortoise();
        DUE.is("keep(1, 50)", x.keep(1, 50), 0);
        DUE.is("keep(1, 51)", x.keep(1, 51), -4);
        x.field(0, 1);
        DUE.is("clover: 1/2", x.keep(1, 50), 0);
        DUE.is("clover: 6/10", x.keep(1, 60), 2);
        DUE.is("clover: 7/10", x.keep(1, 61), 4);
        DUE.is("clover: 9/10", x.keep(1, 90), 8);
        DUE.is("clover: none", x.keep(1, 91), -4);
        DUE.is("clover, 9 days", x.keep(9, 38), 8);
        DUE.is("clover, 9 days", x.keep(9, 39), -4);
        x.lettuce(0, 9);
        DUE.is("whatever it has", x.keep(1, 0), 0);
        DUE.is("food stays", x.of(0, 1), 9);
        x.carry(6);
        DUE.is("the last one", x.keep(9, 100), 0);
        DUE.bad("keep", x.keep(0, 1), x.keep(10, 1), x.keep(1, -1), x.keep(1, 101), x.keep(-1, 1));
    }

    private static void earlyDays() {
        DeedTortoise x = new DeedTortoise();
        DUE.is("early(0, 100)", x.early(0, 100), 0);
        DUE.is("early(1, 0)", x.early(1, 0), 0);
        DUE.is("early(1, 50)", x.early(1, 50), 1);
        DUE.is("early(1, 51)", x.early(1, 51), -4);
        DUE.is("early(6, 1)", x.early(6, 1), 6);
        DUE.is("early(6, 25)", x.early(6, 25), 9);
        DUE.is("early(6, 26)", x.early(6, 26), -4);
        x.carry(6);
        DUE.is("early(0, 1)", x.early(0, 1), -4);
        DUE.is("a field below its own", x.early(5, 0), 0);
        DUE.bad("early", x.early(-1, 0), x.early(7, 0), x.early(0, -1), x.early(0, 101));
    }

    private static void nextDays() {
        DeedTortoise x = new DeedTortoise();
        Due.valley(x, "0:s1c9#4l2#3g4#2m#4s3#4m");
        for (int seed = 0; seed < 6; seed++) {
            x.seed(seed * 1234567);
            for (int n = 0; n <= 40; n += 5) {
                int foretold = x.next(n);
                x.image();
                int reached = n == 0 ? x.count(1) : x.days(n);
                DUE.is("next(" + n + ")", foretold, reached);
                x.restore();
            }
        }
        DUE.bad("next", x.next(-1), x.next(41), x.next(Integer.MAX_VALUE));
    }

    private static void winter(DeedTortoise x, int field, int n, int c, int above, int below) {
        String call = "winter(" + field + ", " + n + ", " + c + ")";
        fraction(call, x.winter(field, n, c, 0), x.winter(field, n, c, 1), above, below);
    }

    private static void winters() {
        DeedTortoise x = new DeedTortoise();
        winter(x, 0, 0, 5, 1, 1);
        winter(x, 0, 1, 0, 1, 2);
        winter(x, 0, 4, 10, 1, 1);
        winter(x, 1, 4, 10, 0, 1);
        winter(x, 0, 1, 5, 3, 4);
        winter(x, 1, 1, 5, 1, 4);
        winter(x, 1, 2, 5, 3, 8);
        x.field(0, 4);
        winter(x, 0, 4, 1, 19 * 19 * 19 * 19, 100000000);
        x.lay(1, 3);
        x.carry(1);
        winter(x, 0, 1, 2, 6, 25);
        chance(x, 1, 1, 1, 5);
        DUE.bad("winter", x.winter(-1, 0, 0, 0), x.winter(7, 0, 0, 0), x.winter(0, -1, 0, 0),
            x.winter(0, 5, 0, 0), x.winter(0, 0, -1, 0), x.winter(0, 0, 11, 0), x.winter(0, 0, 0, -1),
            x.winter(0, 0, 0, 2));
    }

    private static void nothingIsChanged() {
        DeedTortoise x = new DeedTortoise();
        Due.valley(x, "1:m2#1c7#3s#4g5#2l#4c9m3#4;0-2=40");
        x.days(4);
        x.carry(2);
        int spot = x.count(1);
        int draw = x.seed(5);
        x.seed(draw);
        int food = x.count(3);
        x.chance(3, 5, 0);
        x.likely(5);
        x.mean(6, 0);
        x.right(0, 5, 2);
        x.sure(5);
        x.down(6, 0);
        x.keep(5, 90);
        x.early(6, 90);
        x.next(40);
        x.winter(3, 4, 4, 0);
        DUE.is("spot", x.count(1), spot);
        DUE.is("draw", x.seed(draw), draw);
        DUE.is("food", x.count(3), food);
        DUE.is("hedges", x.count(4), 1 + 3 + 4 + 2 + 4 + 4);
        DUE.is("day", x.count(2), 4);
        DUE.is("known", x.count(6), 5);
    }
}
