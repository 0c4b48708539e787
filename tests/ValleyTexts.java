/** Promises 6 and 7: type, valley. */
public final class ValleyTexts {
    private static final Due DUE = new Due();

    public static void main(String[] args) {
        theTape();
        aValley();
        whatAValleyLeaves();
        blanks();
        faultsAhead();
        faultsOfFields();
        faultsOfClaims();
        faultsOfNumbers();
        eightyLetters();
        aFaultChangesNothing();
        DUE.end();
    }

    private static void theTape() {
        DeedTortoise x = new DeedTortoise();
        DUE.bad("type", x.type(31), x.type(127), x.type(-1), x.type(Integer.MAX_VALUE), x.type(0));
        DUE.is("type(32)", x.type(32), 1);
        DUE.is("type(126)", x.type(126), 2);
        for (int k = 3; k <= 80; k++) {
            DUE.is("type " + k, x.type('m'), k);
        }
        DUE.is("type 81", x.type('m'), -3);
        DUE.is("type 81, BAD ahead of FULL", x.type(31), -1);
        DUE.is("valley", x.valley(), -21);
        DUE.is("the tape is empty by a fault, too", x.type('m'), 1);
    }

    private static void aValley() {
        DeedTortoise x = new DeedTortoise();
        DUE.is("valley", Due.valley(x, "4:mc3s#1g9#4l0m#2c5;0-6=1,3-3=99,2-5=07"), 3);
        DUE.is("spot", x.count(1), 4);
        int[][] want = {{0, 0, 0}, {1, 3, 0}, {2, 0, 1}, {3, 9, 4}, {4, 0, 0}, {0, 0, 2}, {1, 5, 0}};
        for (int f = 0; f < 7; f++) {
            for (int what = 0; what < 3; what++) {
                DUE.is("of(" + f + ", " + what + ")", x.of(f, what), want[f][what]);
            }
        }
        int[][] claims = {{0, 6, 1}, {3, 3, 99}, {2, 5, 7}};
        for (int c = 0; c < 3; c++) {
            for (int what = 0; what < 3; what++) {
                DUE.is("at(" + c + ", " + what + ")", x.at(c, what), claims[c][what]);
            }
        }
        DUE.is("the tape is empty", x.type('0'), 1);
        x.valley();
        DUE.is("without claims", Due.valley(x, "0:mmmmmmm"), 0);
        DUE.is("claims", x.count(0), 0);
        DUE.is("food", x.count(3), 0);
        DUE.is("hedges", x.count(4), 0);
        DUE.is("spot", x.count(1), 0);
        DUE.bad("at", x.at(0, 0));
        DUE.is("five claims", Due.valley(x, "6:lllllll;0-0=1,1-1=2,2-2=3,3-3=4,4-4=55"), 5);
        DUE.is("six claims", Due.valley(x, "6:lllllll;0-0=1,1-1=2,2-2=3,3-3=4,4-4=55,5-5=6"), -20 - 40);
        DUE.is("claim after five", x.claim(0, 0, 1), -3);
    }

    private static void whatAValleyLeaves() {
        DeedTortoise x = new DeedTortoise();
        x.claim(1, 2, 3);
        x.days(3);
        x.seed(77);
        x.image();
        x.sheet(2, 1, 5);
        DUE.is("valley", Due.valley(x, "3:sssssss"), 0);
        DUE.is("day", x.count(2), 0);
        DUE.is("known", x.count(6), 0);
        DUE.is("undo", x.undo(), -4);
        DUE.is("the draw stays", x.seed(5), 77);
        DUE.is("sheets stay", x.drop(2), 5);
        DUE.is("the image stays", x.restore(), 1);
        DUE.is("day of the image", x.count(2), 3);
        DUE.is("claims of the image", x.count(0), 1);
    }

    private static void blanks() {
        DeedTortoise x = new DeedTortoise();
        DUE.is("blanks", Due.valley(x, "  2 : m 4 # 1 c # 2 s g l m c 9 ; 0 - 6 = 12 , 1 - 2 = 3  "), 2);
        DUE.is("food", x.of(0, 1), 4);
        DUE.is("hedge", x.of(0, 2), 1);
        DUE.is("hedge behind a blank", x.of(1, 2), 2);
        DUE.is("food of the last field", x.of(6, 1), 9);
        DUE.is("worth", x.at(0, 2), 12);
        DUE.is("blanks end a number", Due.valley(x, "2:mmmmmmm;0-6=1 2"), -20 - 16);
        DUE.is("a blank ahead of a number", Due.valley(x, "2:mmmmmmm;0-6=  12"), 1);
        DUE.is("the place is behind blanks", Due.valley(x, "2:  x"), -20 - 4);
        DUE.is("the end is behind blanks", Due.valley(x, "2:m   "), -20 - 6);
        DUE.is("only blanks", Due.valley(x, "   "), -23);
    }

    private static void fault(String text, int place) {
        DeedTortoise x = new DeedTortoise();
        DUE.is("fault of '" + text + "'", Due.valley(x, text), -20 - place);
    }

    private static void faultsAhead() {
        fault("", 0);
        fault("7:mmmmmmm", 0);
        fault(":mmmmmmm", 0);
        fault("m", 0);
        fault("6", 1);
        fault("66", 1);
        fault("6;", 1);
        fault("6:", 2);
    }

    private static void faultsOfFields() {
        fault("0:x", 2);
        fault("0:M", 2);
        fault("0:4", 2);
        fault("0:#1", 2);
        fault("0:mmmmmm", 8);
        fault("0:mmmmmm;", 8);
        fault("0:mmmmmmmm", 9);
        fault("0:m99", 4);
        fault("0:m#0", 4);
        fault("0:m#5", 4);
        fault("0:m#", 4);
        fault("0:m#m", 4);
        fault("0:m#12", 5);
        fault("0:m#1#1", 5);
        fault("0:mmmmmmm#4 4", 12);
        fault("0:mmmmmmm,", 9);
        fault("0:mmmmmmm4=", 10);
    }

    private static void faultsOfClaims() {
        fault("0:mmmmmmm;", 10);
        fault("0:mmmmmmm;7-7=1", 10);
        fault("0:mmmmmmm;,", 10);
        fault("0:mmmmmmm;0", 11);
        fault("0:mmmmmmm;00", 11);
        fault("0:mmmmmmm;3-2=1", 12);
        fault("0:mmmmmmm;3-7=1", 12);
        fault("0:mmmmmmm;3-", 12);
        fault("0:mmmmmmm;3-3", 13);
        fault("0:mmmmmmm;3-3-", 13);
        fault("0:mmmmmmm;3-3=1,", 16);
        fault("0:mmmmmmm;3-3=1;", 15);
        fault("0:mmmmmmm;3-3=1m", 15);
    }

    private static void faultsOfNumbers() {
        fault("0:mmmmmmm;3-3=", 14);
        fault("0:mmmmmmm;3-3=m", 14);
        fault("0:mmmmmmm;3-3=0", 14);
        fault("0:mmmmmmm;3-3=00", 14);
        fault("0:mmmmmmm;3-3=000", 14);
        fault("0:mmmmmmm;3-3= 0", 15);
        fault("0:mmmmmmm;3-3=0 5", 14);
        fault("0:mmmmmmm;3-3=0,x", 14);
        fault("0:mmmmmmm;3-3=100", 16);
        fault("0:mmmmmmm;3-3=010", 16);
        fault("0:mmmmmmm;3-3=-1", 14);
    }

    private static void eightyLetters() {
        String text = "0:mmmmmmm;0-0=1,0-0=2,0-0=3,0-0=4,0-0=";
        DeedTortoise x = new DeedTortoise();
        DUE.is("the last one a first digit", Due.valley(x, " ".repeat(79 - text.length()) + text + "5"), 5);
        DUE.is("worth", x.at(4, 2), 5);
        DUE.is("the last one a second digit", Due.valley(x, " ".repeat(78 - text.length()) + text + "56"), 5);
        DUE.is("worth", x.at(4, 2), 56);
        DUE.is("the end", Due.valley(x, " ".repeat(80 - text.length()) + text), -100);
        DUE.is("the end of blanks", Due.valley(x, " ".repeat(80)), -100);
    }

    private static void aFaultChangesNothing() {
        DeedTortoise x = new DeedTortoise();
        Due.valley(x, "2:c1c2c3c4c5c6c7;1-3=5");
        x.seed(9);
        x.days(2);
        int spot = x.count(1);
        int food = x.count(3);
        DUE.is("late fault", Due.valley(x, "5:l#1l#1l#1l#1l#1l#1l#1;0-0=1,0-0=0"), -20 - 34);
        DUE.is("spot", x.count(1), spot);
        DUE.is("food", x.count(3), food);
        DUE.is("hedges", x.count(4), 0);
        DUE.is("kind", x.of(0, 0), 1);
        DUE.is("day", x.count(2), 2);
        DUE.is("known", x.count(6), 2);
        DUE.is("claims", x.count(0), 1);
        DUE.is("claim", x.at(0, 1), 3);
    }
}
