/** Promises 1 to 5 and 8: a new object, field, claim, of, at, count. */
public final class FieldsAndClaims {
    private static final Due DUE = new Due();

    public static void main(String[] args) {
        aNewObject();
        kindsOfFields();
        waysByKindAndFood();
        waysAtTheEnds();
        claims();
        counts();
        DUE.end();
    }

    private static void aNewObject() {
        DeedTortoise x = new DeedTortoise();
        for (int f = 0; f < 7; f++) {
            DUE.is("new of kind " + f, x.of(f, 0), 0);
            DUE.is("new of food " + f, x.of(f, 1), 0);
            DUE.is("new of hedge " + f, x.of(f, 2), 0);
            DUE.is("new of on " + f, x.of(f, 3), f == 6 ? 0 : 5);
            DUE.is("new of back " + f, x.of(f, 4), 0);
        }
        for (int what = 0; what <= 6; what++) {
            DUE.is("new count " + what, x.count(what), 0);
        }
        DUE.is("new tape", x.type('m'), 1);
        DUE.is("new draw", x.seed(5), 1);
        DUE.is("new image", x.restore(), -4);
        for (int s = 0; s < 4; s++) {
            DUE.is("new sheet " + s, x.drop(s), -11);
        }
    }

    private static void kindsOfFields() {
        DeedTortoise x = new DeedTortoise();
        DUE.is("field(0, 4)", x.field(0, 4), 0);
        DUE.is("field(0, 2)", x.field(0, 2), 4);
        DUE.is("field(0, 2) again", x.field(0, 2), 2);
        DUE.is("of(0, 0)", x.of(0, 0), 2);
        DUE.is("of(1, 0)", x.of(1, 0), 0);
        DUE.is("field(6, 3)", x.field(6, 3), 0);
        DUE.bad("field", x.field(-1, 0), x.field(7, 0), x.field(0, -1), x.field(0, 5),
            x.field(Integer.MIN_VALUE, 0), x.field(0, Integer.MAX_VALUE));
        DUE.is("kind stays", x.of(0, 0), 2);
        DUE.bad("of", x.of(-1, 0), x.of(7, 0), x.of(0, -1), x.of(0, 5), x.of(Integer.MAX_VALUE, 4));
    }

    /** The table of the document, food by food. */
    private static void waysByKindAndFood() {
        int[][] on = {
            {5, 5, 5, 5, 5, 5, 5, 5, 5, 5},
            {5, 5, 4, 4, 3, 3, 2, 2, 1, 1},
            {7, 5, 5, 5, 5, 5, 5, 5, 5, 5},
            {2, 2, 1, 1, 1, 1, 1, 1, 1, 1},
            {9, 7, 7, 7, 7, 7, 7, 7, 7, 7},
        };
        for (int kind = 0; kind < 5; kind++) {
            DeedTortoise x = new DeedTortoise();
            x.field(3, kind);
            x.field(6, kind);
            for (int food = 0; food < 10; food++) {
                DUE.is("food", x.of(3, 1), food);
                DUE.is("on of kind " + kind + " food " + food, x.of(3, 3), on[kind][food]);
                DUE.is("on of the last field", x.of(6, 3), 0);
                for (int hedge = 0; hedge < 5; hedge++) {
                    x.lay(3, hedge);
                    DUE.is("hedge", x.of(3, 2), hedge);
                    int back = Math.min(hedge, 10 - on[kind][food]);
                    DUE.is("back of kind " + kind + " food " + food + " hedge " + hedge, x.of(3, 4), back);
                }
                x.lettuce(3, 1);
                x.lettuce(6, 1);
            }
        }
    }

    private static void waysAtTheEnds() {
        DeedTortoise x = new DeedTortoise();
        x.lay(0, 4);
        x.lay(6, 4);
        DUE.is("back from the first field", x.of(0, 4), 0);
        DUE.is("back from the last field", x.of(6, 4), 4);
        DUE.is("on from the first field", x.of(0, 3), 5);
    }

    private static void claims() {
        DeedTortoise x = new DeedTortoise();
        DUE.bad("at without claims", x.at(0, 0), x.at(-1, 0));
        DUE.is("claim 0", x.claim(0, 6, 99), 0);
        DUE.is("claim 1", x.claim(6, 6, 1), 1);
        DUE.bad("claim", x.claim(-1, 0, 1), x.claim(7, 7, 1), x.claim(3, 2, 1), x.claim(0, 7, 1),
            x.claim(0, 0, 0), x.claim(0, 0, 100), x.claim(0, 0, -5), x.claim(0, Integer.MAX_VALUE, 1));
        DUE.is("claims", x.count(0), 2);
        DUE.is("claim 2", x.claim(2, 3, 50), 2);
        DUE.is("claim 3", x.claim(0, 0, 7), 3);
        DUE.is("claim 4", x.claim(1, 5, 9), 4);
        DUE.is("claim 5", x.claim(1, 5, 9), -3);
        DUE.is("claim 5, BAD ahead of FULL", x.claim(1, 0, 9), -1);
        int[][] want = {{0, 6, 99}, {6, 6, 1}, {2, 3, 50}, {0, 0, 7}, {1, 5, 9}};
        for (int c = 0; c < 5; c++) {
            for (int what = 0; what < 3; what++) {
                DUE.is("at(" + c + ", " + what + ")", x.at(c, what), want[c][what]);
            }
        }
        DUE.bad("at", x.at(5, 0), x.at(-1, 0), x.at(0, 3), x.at(0, -1), x.at(Integer.MAX_VALUE, 0));
    }

    private static void counts() {
        DeedTortoise x = new DeedTortoise();
        x.claim(0, 2, 10);
        x.claim(2, 6, 10);
        x.claim(3, 3, 10);
        DUE.is("claims", x.count(0), 3);
        DUE.is("claims on 0", x.count(5), 1);
        x.carry(2);
        DUE.is("spot", x.count(1), 2);
        DUE.is("claims on 2", x.count(5), 3);
        x.carry(3);
        DUE.is("claims on 3", x.count(5), 6);
        x.lettuce(0, 9);
        x.lettuce(6, 4);
        DUE.is("all food", x.count(3), 13);
        x.lay(0, 4);
        x.lay(5, 3);
        DUE.is("all hedges", x.count(4), 7);
        DUE.is("known", x.count(6), 6);
        x.days(3);
        DUE.is("day", x.count(2), 3);
        DUE.is("known, 8 at most", x.count(6), 8);
        DUE.bad("count", x.count(-1), x.count(7), x.count(Integer.MIN_VALUE));
    }
}
