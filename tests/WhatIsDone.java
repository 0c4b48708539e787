/** Promises 9 to 14: days, carry, lettuce, lay, undo, seed. */
public final class WhatIsDone {
    private static final Due DUE = new Due();

    public static void main(String[] args) {
        theDraw();
        eating();
        goingBack();
        daysRefused();
        theLastDay();
        carrying();
        lettuces();
        hedges();
        undoing();
        eightAreKnown();
        whatLeavesNothing();
        whateverWasToldSince();
        seeds();
        DUE.end();
    }

    /** The draws of 1 are 1103527590, 377401575, 662824084, ..; by 65536, left over by 10: 8, 8, 3. */
    private static void theDraw() {
        DeedTortoise x = new DeedTortoise();
        DUE.is("first day", x.days(1), 0);
        DUE.is("first draw", x.seed(1103527590), 1103527590);
        DUE.is("second day", x.days(1), 0);
        DUE.is("second draw", x.seed(377401575), 377401575);
        DUE.is("third day", x.days(1), 1);
        DUE.is("third draw", x.seed(662824084), 662824084);
        DUE.is("day", x.count(2), 3);
        DeedTortoise y = new DeedTortoise();
        DUE.is("three days", y.days(3), 1);
        DUE.is("far on", y.days(40), 6);
        DUE.is("on the last field", y.days(40), 6);
    }

    private static void eating() {
        DeedTortoise x = new DeedTortoise();
        x.lettuce(0, 1);
        x.lettuce(1, 5);
        x.days(1);
        DUE.is("it stays and eats", x.of(0, 1), 0);
        x.days(1);
        DUE.is("there is none", x.of(0, 1), 0);
        x.days(1);
        DUE.is("it goes on and eats nothing", x.of(1, 1), 5);
        DUE.is("food", x.count(3), 5);
        x.carry(6);
        x.lettuce(6, 3);
        x.days(2);
        DUE.is("it eats on the last field", x.of(6, 1), 1);
        x.days(2);
        DUE.is("no less than none", x.of(6, 1), 0);
    }

    private static void goingBack() {
        DeedTortoise x = new DeedTortoise();
        x.lay(3, 4);
        x.lay(2, 3);
        x.lettuce(3, 2);
        x.carry(3);
        DUE.is("8 of 10 is below 5 and 4 together", x.days(1), 2);
        DUE.is("it goes back and eats nothing", x.of(3, 1), 2);
        DUE.is("8 of 10 is not below 5 and 3 together", x.days(1), 2);
        x.carry(0);
        x.lay(0, 4);
        x.seed(1);
        DUE.is("not back from the first field", x.days(1), 0);
    }

    private static void daysRefused() {
        DeedTortoise x = new DeedTortoise();
        DUE.bad("days", x.days(0), x.days(41), x.days(-1), x.days(Integer.MAX_VALUE), x.days(Integer.MIN_VALUE));
        DUE.is("day", x.count(2), 0);
        DUE.is("known", x.count(6), 0);
    }

    private static void theLastDay() {
        DeedTortoise x = new DeedTortoise();
        for (int k = 0; k < 249; k++) {
            x.days(40);
        }
        DUE.is("day", x.count(2), 9960);
        DUE.is("days(40)", x.days(40), -3);
        DUE.is("BAD ahead of FULL", x.days(41), -1);
        DUE.is("day stays", x.count(2), 9960);
        int draw = x.seed(3);
        x.seed(draw);
        DUE.is("days(39)", x.days(39), 6);
        DUE.is("day", x.count(2), 9999);
        DUE.is("days(1)", x.days(1), -3);
        DUE.is("undo", x.undo(), 7);
        DUE.is("days(2)", x.days(2), -3);
        DUE.is("days(1) again", x.days(1), 6);
        DUE.is("next beyond it", x.next(40), 6);
    }

    private static void carrying() {
        DeedTortoise x = new DeedTortoise();
        DUE.bad("carry", x.carry(-1), x.carry(7), x.carry(Integer.MAX_VALUE));
        DUE.is("carry(0)", x.carry(0), -2);
        DUE.is("known", x.count(6), 0);
        DUE.is("carry(6)", x.carry(6), 0);
        DUE.is("carry(2)", x.carry(2), 6);
        DUE.is("carry(2) again", x.carry(2), -2);
        DUE.is("spot", x.count(1), 2);
        DUE.is("day", x.count(2), 0);
        DUE.is("known", x.count(6), 2);
    }

    private static void lettuces() {
        DeedTortoise x = new DeedTortoise();
        DUE.bad("lettuce", x.lettuce(-1, 1), x.lettuce(7, 1), x.lettuce(0, 0), x.lettuce(0, 10),
            x.lettuce(0, -1), x.lettuce(0, Integer.MAX_VALUE));
        DUE.is("lettuce(1, 4)", x.lettuce(1, 4), 4);
        DUE.is("lettuce(1, 4)", x.lettuce(1, 4), 8);
        DUE.is("lettuce(1, 9)", x.lettuce(1, 9), 9);
        DUE.is("lettuce(1, 1)", x.lettuce(1, 1), -2);
        DUE.is("BAD ahead of NOT", x.lettuce(1, 10), -1);
        DUE.is("known", x.count(6), 3);
        DUE.is("food", x.of(1, 1), 9);
        DUE.is("undo", x.undo(), 2);
        DUE.is("food undone", x.of(1, 1), 8);
    }

    private static void hedges() {
        DeedTortoise x = new DeedTortoise();
        DUE.bad("lay", x.lay(-1, 1), x.lay(7, 1), x.lay(0, -1), x.lay(0, 5), x.lay(0, Integer.MIN_VALUE));
        DUE.is("lay(4, 0)", x.lay(4, 0), -2);
        DUE.is("lay(4, 3)", x.lay(4, 3), 0);
        DUE.is("lay(4, 3) again", x.lay(4, 3), -2);
        DUE.is("lay(4, 0)", x.lay(4, 0), 3);
        DUE.is("lay(4, 4)", x.lay(4, 4), 0);
        DUE.is("known", x.count(6), 3);
        DUE.is("hedge", x.of(4, 2), 4);
    }

    private static void undoing() {
        DeedTortoise x = new DeedTortoise();
        DUE.is("undo", x.undo(), -4);
        x.days(2);
        x.carry(5);
        x.lettuce(5, 7);
        x.lay(5, 2);
        DUE.is("undo lay", x.undo(), 4);
        DUE.is("hedge", x.of(5, 2), 0);
        DUE.is("food stays", x.of(5, 1), 7);
        DUE.is("undo lettuce", x.undo(), 3);
        DUE.is("food", x.of(5, 1), 0);
        DUE.is("undo carry", x.undo(), 2);
        DUE.is("spot", x.count(1), 0);
        DUE.is("undo a day", x.undo(), 1);
        DUE.is("day", x.count(2), 1);
        DUE.is("draw", x.seed(1103527590), 1103527590);
        DUE.is("undo a day", x.undo(), 0);
        DUE.is("day", x.count(2), 0);
        DUE.is("draw", x.seed(1), 1);
        DUE.is("undo", x.undo(), -4);
        x.lettuce(0, 3);
        x.days(1);
        DUE.is("undo what was eaten", x.undo(), 1);
        DUE.is("food", x.of(0, 1), 3);
    }

    private static void eightAreKnown() {
        DeedTortoise x = new DeedTortoise();
        for (int k = 1; k <= 9; k++) {
            x.lettuce(0, 1);
            DUE.is("known", x.count(6), Math.min(k, 8));
        }
        for (int k = 7; k >= 0; k--) {
            DUE.is("undo", x.undo(), k);
            DUE.is("food", x.of(0, 1), k + 1);
        }
        DUE.is("the oldest is lost", x.undo(), -4);
        x.days(40);
        DUE.is("of 40 days 8", x.count(6), 8);
        for (int k = 7; k >= 0; k--) {
            DUE.is("undo", x.undo(), k);
        }
        DUE.is("day", x.count(2), 32);
    }

    private static void whatLeavesNothing() {
        DeedTortoise x = new DeedTortoise();
        x.carry(1);
        x.field(7, 0);
        x.claim(0, 0, 0);
        DUE.is("refused calls leave it", x.count(6), 1);
        x.field(0, 0);
        DUE.is("the same kind leaves nothing", x.count(6), 0);
        x.carry(2);
        x.field(0, 3);
        DUE.is("another kind leaves nothing", x.undo(), -4);
        x.carry(3);
        x.claim(0, 0, 1);
        DUE.is("a claim leaves nothing", x.undo(), -4);
        for (int k = 1; k < 5; k++) {
            x.claim(0, 0, 1);
        }
        x.carry(4);
        DUE.is("one claim too many", x.claim(0, 0, 1), -3);
        DUE.is("a refused claim leaves it", x.count(6), 1);
        Due.valley(x, "8");
        DUE.is("a fault leaves it", x.count(6), 1);
        Due.valley(x, "4:mmmmmmm");
        DUE.is("a valley leaves nothing", x.count(6), 0);
    }

    private static void whateverWasToldSince() {
        DeedTortoise x = new DeedTortoise();
        x.seed(40);
        x.lay(2, 2);
        x.seed(50);
        DUE.is("seed is not undone by itself", x.count(6), 1);
        DUE.is("undo", x.undo(), 0);
        DUE.is("the draw is as ahead of it", x.seed(0), 40);
    }

    private static void seeds() {
        DeedTortoise x = new DeedTortoise();
        DUE.is("seed(7)", x.seed(7), 1);
        DUE.is("seed(-1)", x.seed(-1), -1);
        DUE.is("seed(MIN)", x.seed(Integer.MIN_VALUE), -1);
        DUE.is("seed(0)", x.seed(0), 7);
        DUE.is("seed(MAX)", x.seed(Integer.MAX_VALUE), 0);
        x.days(1);
        DUE.is("31 bits", x.seed(1), (int) ((Integer.MAX_VALUE * 1103515245L + 12345L) & 0x7fffffffL));
    }
}
