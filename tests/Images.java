/** Promises 25 and 26: image, restore. */
public final class Images {
    private static final Due DUE = new Due();

    public static void main(String[] args) {
        DeedTortoise x = new DeedTortoise();
        DUE.is("restore", x.restore(), -4);
        x.field(1, 4);
        x.claim(1, 2, 3);
        x.lettuce(1, 5);
        x.lay(2, 1);
        x.days(3);
        x.type('0');
        Due.row(x, 0, 2, 5, 6);
        DUE.is("image", x.image(), 1);
        int spot = x.count(1);
        int draw = x.seed(99);
        x.claim(0, 0, 9);
        x.days(40);
        x.field(1, 2);
        x.lay(2, 4);
        x.carry(5);
        DUE.is("type", x.type(':'), 2);
        x.item(0, 2, 0, 4);
        for (int turn = 0; turn < 2; turn++) {
            DUE.is("restore", x.restore(), 1);
            DUE.is("spot", x.count(1), spot);
            DUE.is("draw", x.seed(draw), draw);
            DUE.is("claims", x.count(0), 1);
            DUE.is("claim", x.at(0, 2), 3);
            DUE.is("day", x.count(2), 3);
            DUE.is("kind", x.of(1, 0), 4);
            DUE.is("food", x.of(1, 1), 5);
            DUE.is("hedge", x.of(2, 2), 1);
            DUE.is("known", x.count(6), 5);
            DUE.is("undo", x.undo(), 4);
            DUE.is("day undone", x.count(2), 2);
            x.undo();
            x.undo();
            x.undo();
            DUE.is("hedge undone", x.of(2, 2), 0);
            DUE.is("food stays", x.of(1, 1), 5);
            DUE.is("undo the first", x.undo(), 0);
            DUE.is("food undone", x.of(1, 1), 0);
            x.carry(6);
            x.claim(3, 3, 33);
        }
        DUE.is("the tape is no part of it", x.type('m'), 3);
        DUE.is("sheets are no part of it", x.copy(0, 0, 0, 1, 1), 1);
        DUE.is("a later image", x.image(), 1);
        x.carry(0);
        x.restore();
        DUE.is("its spot", x.count(1), 6);
        DUE.is("its claims", x.count(0), 2);
        DUE.is("what may be undone then: nothing", x.undo(), -4);
        eightAreKept();
        DUE.end();
    }

    private static void eightAreKept() {
        DeedTortoise x = new DeedTortoise();
        for (int k = 0; k < 9; k++) {
            x.lettuce(k % 7, 2);
        }
        x.image();
        x.days(40);
        x.restore();
        DUE.is("known", x.count(6), 8);
        for (int k = 7; k >= 0; k--) {
            DUE.is("undo", x.undo(), k);
            DUE.is("food", x.count(3), 2 * k + 2);
        }
        DUE.is("undo", x.undo(), -4);
    }
}
