/** Sentence by sentence the edges of promises 25 and 26. */
public final class EdgesOfImages {
    private static final Due DUE = new Due();

    /** The image is of all as it is now. */
    private static final Twins KEPT = new Twins(DUE, x -> {
        Twins.busy(x);
        x.image();
    });

    public static void main(String[] args) {
        noneAtFirst();
        anImageChangesNothing();
        allIsAsItWas();
        manyThingsSince();
        claimsAreAsTheyWere();
        whatMayBeUndoneIsKept();
        theImageStaysBehindRestoring();
        aLaterImageIsInPlaceOfTheFirst();
        theTapeIsNotKept();
        sheetsAreNotKept();
        DUE.end();
    }

    private static void noneAtFirst() {
        Twins without = new Twins(DUE, x -> {
            Due.valley(x, "2:c1#1mmmmmm;0-6=7");
            x.days(3);
            x.sheet(1, 1, 1);
        });
        without.stays("there is none", -4, DeedTortoise::restore);
        without.is("there is one", 1, DeedTortoise::image);
        without.is("it comes back", 1, x -> x.image() == 1 ? x.restore() : 0);
    }

    private static void anImageChangesNothing() {
        KEPT.stays("an image once more", 1, DeedTortoise::image);
        KEPT.stays("restored at once", 1, DeedTortoise::restore);
    }

    private static void allIsAsItWas() {
        restored("a kind", x -> x.field(5, 0));
        restored("the same kind", x -> x.field(4, 4));
        restored("a claim", x -> x.claim(0, 0, 1));
        restored("a day", x -> x.days(1));
        restored("forty days", x -> x.days(40));
        restored("carried", x -> x.carry(0));
        restored("lettuce", x -> x.lettuce(4, 9));
        restored("a hedge", x -> x.lay(6, 4));
        restored("something undone", DeedTortoise::undo);
        restored("the draw", x -> x.seed(0));
    }

    private static void restored(String what, Twins.Call since) {
        KEPT.stays(what + " is as it was then", 1, x -> since.on(x) >= 0 ? x.restore() : -1);
    }

    private static void manyThingsSince() {
        KEPT.stays("all is as it was then", 1, x -> {
            for (int f = 0; f < 7; f++) {
                x.field(f, 4);
                x.claim(f, 6, 50 + f);
                x.carry(f);
                x.lettuce(f, 9);
                x.lay(f, 4);
            }
            x.days(40);
            x.seed(1);
            return x.restore();
        });
    }

    private static void claimsAreAsTheyWere() {
        DeedTortoise x = new DeedTortoise();
        Due.valley(x, "0:mmmmmmm;0-1=11,2-3=22,4-5=33,5-6=44,6-6=55");
        x.image();
        Due.valley(x, "0:mmmmmmm");
        DUE.is("restore", x.restore(), 1);
        DUE.is("five claims again", x.count(0), 5);
        DUE.is("the last one's worth", x.at(4, 2), 55);
        DUE.is("a sixth one", x.claim(0, 0, 1), -3);
        Due.valley(x, "0:mmmmmmm");
        x.image();
        x.claim(0, 0, 1);
        x.restore();
        DUE.is("no claims again", x.count(0), 0);
        DUE.is("no first one", x.at(0, 0), -1);
    }

    private static void whatMayBeUndoneIsKept() {
        DeedTortoise x = new DeedTortoise();
        for (int f = 0; f < 8; f++) {
            x.lettuce(f % 7, 1);
        }
        x.image();
        for (int k = 0; k < 8; k++) {
            x.undo();
        }
        DUE.is("none more", x.undo(), -4);
        x.restore();
        DUE.is("eight again", x.count(6), 8);
        x.field(0, 0);
        DUE.is("none", x.count(6), 0);
        x.restore();
        for (int left = 7; left >= 0; left--) {
            DUE.is("undo", x.undo(), left);
            DUE.is("food", x.count(3), left);
        }
        x.image();
        x.days(8);
        x.restore();
        DUE.is("none may be undone: none was then", x.undo(), -4);
    }

    private static void theImageStaysBehindRestoring() {
        KEPT.stays("restored, changed, restored again", 1, x -> {
            x.restore();
            x.days(9);
            x.carry(0);
            return x.restore();
        });
    }

    private static void aLaterImageIsInPlaceOfTheFirst() {
        DeedTortoise x = new DeedTortoise();
        x.image();
        x.carry(4);
        x.image();
        x.carry(5);
        DUE.is("restore", x.restore(), 1);
        DUE.is("where it was then", x.count(1), 4);
        x.carry(0);
        DUE.is("restore again", x.restore(), 1);
        DUE.is("the first one is gone", x.count(1), 4);
    }

    private static void theTapeIsNotKept() {
        DeedTortoise x = new DeedTortoise();
        Due.type(x, "5:mm");
        x.image();
        Due.type(x, "mmm");
        x.restore();
        DUE.is("the tape stays behind restoring", x.type('m'), 8);
        DUE.is("so does what is on it", Due.valley(x, "m"), 0);
        DUE.is("where it is", x.count(1), 5);
        x.restore();
        DUE.is("an empty tape stays empty", x.type('m'), 1);
    }

    private static void sheetsAreNotKept() {
        DeedTortoise x = new DeedTortoise();
        Due.row(x, 0, 2, 1, 2);
        x.sheet(1, 1, 3);
        x.image();
        x.item(0, 2, 1, 5);
        x.drop(1);
        x.sheet(2, 0, 7);
        x.restore();
        DUE.is("an item stays as told since", x.seen(0, 2, 1, 1, 2), 1 << 4 | 1 << 5);
        DUE.is("what was dropped stays so", x.drop(1), -11);
        DUE.is("a new row stays", x.drop(2), 7);
    }
}
