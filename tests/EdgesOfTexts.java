/** Sentence by sentence the edges of promises 6 and 7, and of a valley as a text. */
public final class EdgesOfTexts {
    private static final Due DUE = new Due();
    private static final Twins BUSY = new Twins(DUE, Twins::busy);

    public static void main(String[] args) {
        letters();
        aFullTape();
        anEmptyTape();
        theTapeIsEmptyThen();
        aFaultLeavesAllElse();
        whereItIs();
        aColonBehindIt();
        sevenFields();
        lettersOfKinds();
        foods();
        hedges();
        oneToFiveClaims();
        fieldsOfClaims();
        worths();
        aNumberNotAsToldIsAFaultAtItsFirstDigit();
        aThirdDigitCannotStandThere();
        blanksCountForNothing();
        blanksEndANumber();
        theEnd();
        inPlaceOfAll();
        dayZero();
        whatStays();
        nothingMayBeUndoneThen();
        everyLetterEverywhere();
        DUE.end();
    }

    private static final String MEADOWS = "0:mmmmmmm";

    private static void fault(String text, int place) {
        DUE.is("fault of '" + text + "'", Due.valley(new DeedTortoise(), text), -20 - place);
    }

    private static void valley(String text, int claims) {
        DUE.is("valley '" + text + "'", Due.valley(new DeedTortoise(), text), claims);
    }

    /** What a field of the valley has, or the claim if what is below 0. */
    private static DeedTortoise read(String text) {
        DeedTortoise x = new DeedTortoise();
        DUE.isTrue("'" + text + "' is a valley", Due.valley(x, text) >= 0);
        return x;
    }

    private static void letters() {
        BUSY.bounds("type(letter)", 32, 126, DeedTortoise::type);
        BUSY.is("how many it has", 16, x -> x.type('x'));
        DUE.is("how many it has, at first", new DeedTortoise().type(32), 1);
    }

    private static void fullTape(DeedTortoise x) {
        Twins.busy(x);
        DUE.is("79 letters", Due.type(x, " ".repeat(79 - 15)), 79);
        DUE.is("80 letters", x.type(' '), 80);
    }

    private static void aFullTape() {
        Twins full = new Twins(DUE, EdgesOfTexts::fullTape);
        full.stays("one letter more than 80", -3, x -> x.type('m'));
        full.stays("BAD ahead of FULL: below 32", -1, x -> x.type(31));
        full.stays("BAD ahead of FULL: above 126", -1, x -> x.type(127));
        full.is("80 letters are a valley", 1, DeedTortoise::valley);
        DeedTortoise x = new DeedTortoise();
        DUE.is("a refused letter is not there: the fault is the end", Due.valley(x, " ".repeat(80) + "x"), -100);
        DUE.is("80 more", Due.type(x, " ".repeat(80)), 80);
    }

    private static void anEmptyTape() {
        fault("", 0);
        DeedTortoise x = new DeedTortoise();
        Due.valley(x, MEADOWS);
        DUE.is("it is empty behind a valley", x.valley(), -20);
        Due.valley(x, "x");
        DUE.is("it is empty behind a fault", x.valley(), -20);
    }

    private static void theTapeIsEmptyThen() {
        DeedTortoise x = new DeedTortoise();
        Due.valley(x, MEADOWS);
        DUE.is("by a valley", x.type('x'), 1);
        x.valley();
        DUE.is("by a fault, too", x.type('x'), 1);
        DUE.is("by a fault behind 80 letters, too", Due.valley(x, "m".repeat(80)), -20);
        DUE.is("behind 80 letters", x.type('x'), 1);
    }

    private static void aFaultLeavesAllElse() {
        Twins busy = new Twins(DUE, Twins::busyWithoutTape);
        busy.stays("a fault of nothing", -20, DeedTortoise::valley);
        busy.stays("a fault of the first letter", -20, x -> Due.valley(x, "7"));
        busy.stays("a fault behind seven fields", -57, x -> Due.valley(x, "6:l4#4l4#4l4#4l4#4l4#4l4#4l4#4;0-0=99x"));
        busy.stays("a fault of a worth", -61, x -> Due.valley(x, "6:l4#4l4#4l4#4l4#4l4#4l4#4l4#4;0-0=9,1-1=0"));
        busy.stays("a fault of the end", -51, x -> Due.valley(x, "6:l4#4l4#4l4#4l4#4l4#4l4#4l4#4;"));
    }

    private static void whereItIs() {
        DUE.is("the first field", read("0:mmmmmmm").count(1), 0);
        DUE.is("the last field", read("6:mmmmmmm").count(1), 6);
        fault("7:mmmmmmm", 0);
        fault("9:mmmmmmm", 0);
        fault("/:mmmmmmm", 0);
        fault(":mmmmmmm", 0);
        fault("-1:mmmmmmm", 0);
        fault("00:mmmmmmm", 1);
    }

    private static void aColonBehindIt() {
        fault("0mmmmmmm", 1);
        fault("0;mmmmmmm", 1);
        fault("0::mmmmmmm", 2);
    }

    private static void sevenFields() {
        valley("0:mmmmmmm", 0);
        fault("0:mmmmmm", 8);
        fault("0:mmmmmm;0-0=1", 8);
        fault("0:mmmmmmmm", 9);
        fault("0:;0-0=1", 2);
        fault("0:mmm,mmmm", 5);
    }

    private static void lettersOfKinds() {
        String kinds = "mcsgl";
        for (int letter = 33; letter <= 126; letter++) {
            int kind = kinds.indexOf(letter);
            if (kind < 0) {
                fault("0:" + (char) letter + "mmmmmm", 2);
                continue;
            }
            DUE.is("the first field", read("0:" + (char) letter + "mmmmmm").of(0, 0), kind);
            DUE.is("the last field", read("0:mmmmmm" + (char) letter).of(6, 0), kind);
        }
    }

    private static void foods() {
        for (int food = 0; food <= 9; food++) {
            DUE.is("food " + food, read("0:m" + food + "mmmmmm").of(0, 1), food);
            DUE.is("food " + food + " of the last field", read("0:mmmmmmm" + food).of(6, 1), food);
        }
        DUE.is("no food told", read("0:mmmmmmm9").of(5, 1), 0);
        fault("0:m10mmmmmm", 4);
        fault("0:m00mmmmmm", 4);
        fault("0:m/mmmmmm", 3);
        fault("0:m:mmmmmm", 3);
    }

    private static void hedges() {
        for (int hedge = 1; hedge <= 4; hedge++) {
            DUE.is("hedge " + hedge, read("0:m#" + hedge + "mmmmmm").of(0, 2), hedge);
            DUE.is("hedge " + hedge + " of the last field", read("0:mmmmmmm9#" + hedge).of(6, 2), hedge);
        }
        DUE.is("no hedge told", read("0:m3mmmmmm#4").of(0, 2), 0);
        fault("0:m#0mmmmmm", 4);
        fault("0:m#5mmmmmm", 4);
        fault("0:m#mmmmmm", 4);
        fault("0:m##1mmmmmm", 4);
        fault("0:m#14mmmmmm", 5);
        fault("0:m1#4#4mmmmmm", 6);
    }

    private static void oneToFiveClaims() {
        valley(MEADOWS, 0);
        valley(MEADOWS + ";0-0=1", 1);
        valley(MEADOWS + ";0-0=1,0-0=1", 2);
        valley(MEADOWS + ";0-0=1,0-0=1,0-0=1,0-0=1,0-0=1", 5);
        fault(MEADOWS + ";0-0=1,0-0=1,0-0=1,0-0=1,0-0=1,0-0=1", 39);
        fault(MEADOWS + ";0-0=1,0-0=1,0-0=1,0-0=1,0-0=1,", 39);
        fault(MEADOWS + ";", 10);
        fault(MEADOWS + ";,0-0=1", 10);
        fault(MEADOWS + ";;0-0=1", 10);
        fault(MEADOWS + ",0-0=1", 9);
        fault(MEADOWS + ";0-0=1,", 16);
        fault(MEADOWS + ";0-0=1,,0-0=1", 16);
        fault(MEADOWS + ";0-0=1;0-0=1", 15);
        fault(MEADOWS + ";0-0=1m", 15);
    }

    private static void fieldsOfClaims() {
        for (int from = 0; from <= 6; from++) {
            for (int to = 0; to <= 7; to++) {
                String text = MEADOWS + ";" + from + "-" + to + "=5";
                if (to < from || to > 6) {
                    fault(text, 12);
                    continue;
                }
                DUE.is("the first field of " + text, read(text).at(0, 0), from);
                DUE.is("the last field of " + text, read(text).at(0, 1), to);
            }
        }
        fault(MEADOWS + ";7-7=1", 10);
        fault(MEADOWS + ";/-6=1", 10);
        fault(MEADOWS + ";-6=1", 10);
        fault(MEADOWS + ";3=1", 11);
        fault(MEADOWS + ";33=1", 11);
        fault(MEADOWS + ";3--3=1", 12);
        fault(MEADOWS + ";3-/=1", 12);
        fault(MEADOWS + ";3-33=1", 13);
        fault(MEADOWS + ";3-3:1", 13);
        fault(MEADOWS + ";3-3 1", 14);
        fault(MEADOWS + ";3-3==1", 14);
    }

    private static void worth(String told, int want) {
        DUE.is("worth " + told, read(MEADOWS + ";0-6=" + told).at(0, 2), want);
        DUE.is("worth " + told + " ahead of a claim", read(MEADOWS + ";0-6=" + told + ",1-1=1").at(0, 2), want);
    }

    private static void worths() {
        worth("1", 1);
        worth("9", 9);
        worth("10", 10);
        worth("99", 99);
        worth("01", 1);
        worth("09", 9);
        fault(MEADOWS + ";3-3=", 14);
        fault(MEADOWS + ";3-3=,", 14);
        fault(MEADOWS + ";3-3=/", 14);
        fault(MEADOWS + ";3-3=:", 14);
        fault(MEADOWS + ";3-3=-1", 14);
        fault(MEADOWS + ";3-3=1/", 15);
        fault(MEADOWS + ";3-3=1:", 15);
    }

    private static void aNumberNotAsToldIsAFaultAtItsFirstDigit() {
        fault(MEADOWS + ";3-3=0", 14);
        fault(MEADOWS + ";3-3=00", 14);
        fault(MEADOWS + ";3-3=000", 14);
        fault(MEADOWS + ";3-3=001", 14);
        fault(MEADOWS + ";3-3=0x", 14);
        fault(MEADOWS + ";3-3=00x", 14);
        fault(MEADOWS + ";3-3=0 ", 14);
        fault(MEADOWS + ";3-3=0 5", 14);
        fault(MEADOWS + ";3-3=0,3-3=1", 14);
        fault(MEADOWS + ";3-3=5,3-3=0", 20);
        fault(MEADOWS + ";3-3=  00 ", 16);
    }

    private static void aThirdDigitCannotStandThere() {
        fault(MEADOWS + ";3-3=100", 16);
        fault(MEADOWS + ";3-3=999", 16);
        fault(MEADOWS + ";3-3=010", 16);
        fault(MEADOWS + ";3-3=1000", 16);
        fault(MEADOWS + ";3-3=  100", 18);
        fault(MEADOWS + ";3-3=100,3-3=0", 16);
    }

    private static void blanksCountForNothing() {
        DeedTortoise x = read("  4 :  m 9 # 4 c g s l m #  1 m 0  ;  0  -  6  =  99 , 1 - 1 = 5  ");
        DUE.is("where it is", x.count(1), 4);
        DUE.is("kind", x.of(2, 0), 3);
        DUE.is("food", x.of(0, 1), 9);
        DUE.is("hedge", x.of(0, 2), 4);
        DUE.is("hedge without food", x.of(5, 2), 1);
        DUE.is("worth", x.at(0, 2), 99);
        DUE.is("worth of the last claim", x.at(1, 2), 5);
        fault("  x", 2);
        fault("0 x", 2);
        fault("0:m 9 9", 6);
        fault("0:m # 5", 6);
        fault(MEADOWS + " x", 10);
        fault(MEADOWS + " ; 7", 12);
        fault(MEADOWS + ";3 -  2=1", 15);
        fault(MEADOWS + ";3-3=1 x", 16);
    }

    private static void blanksEndANumber() {
        fault(MEADOWS + ";3-3=1 2", 16);
        fault(MEADOWS + ";3-3=1  2", 17);
        fault(MEADOWS + ";3-3=12 3", 17);
        fault(MEADOWS + ";3-3=1 0,0-0=1", 16);
        worth("5 ", 5);
    }

    /** A fault at the end is as far on as there are letters, blanks too. */
    private static void theEnd() {
        String text = "4:m1#2mmmmmm;0-0=5";
        for (int letters = 0; letters < text.length(); letters++) {
            String begun = text.substring(0, letters);
            boolean isValley = letters == 12;
            if (!isValley) {
                fault(begun, letters);
                fault(begun + "   ", letters + 3);
            }
        }
        valley(text.substring(0, 12), 0);
        valley(text.substring(0, 12) + "   ", 0);
        fault(" ".repeat(79), 79);
        fault(" ".repeat(80), 80);
        fault(" ".repeat(79) + "x", 79);
        fault(" ".repeat(79) + "0", 80);
    }

    private static void inPlaceOfAll() {
        DeedTortoise x = new DeedTortoise();
        Due.valley(x, "5:l9#4l9#4l9#4l9#4l9#4l9#4l9#4;0-6=99,6-6=98");
        DUE.is("how many claims", Due.valley(x, "1:cmcmcmc;2-3=4"), 1);
        DUE.is("where it is", x.count(1), 1);
        DUE.is("no food stays", x.count(3), 0);
        DUE.is("no hedge stays", x.count(4), 0);
        for (int f = 0; f < 7; f++) {
            DUE.is("kind", x.of(f, 0), (f + 1) % 2);
        }
        DUE.is("claims", x.count(0), 1);
        DUE.is("a claim from", x.at(0, 0), 2);
        DUE.is("a claim to", x.at(0, 1), 3);
        DUE.is("a claim's worth", x.at(0, 2), 4);
        DUE.is("no second one", x.at(1, 0), -1);
        DUE.is("no claims", Due.valley(x, MEADOWS), 0);
        DUE.is("no first one", x.at(0, 0), -1);
    }

    private static void dayZero() {
        DeedTortoise x = new DeedTortoise();
        x.days(40);
        Due.valley(x, "5:mmmmmmm");
        DUE.is("day 0", x.count(2), 0);
        DUE.is("days from there", x.days(1) >= 5 ? x.count(2) : -1, 1);
    }

    private static void whatStays() {
        DeedTortoise x = new DeedTortoise();
        x.seed(4711);
        x.carry(2);
        x.image();
        Due.row(x, 3, 1, 0, 2, 0);
        Due.valley(x, "1:mmmmmmm");
        DUE.is("the draw stays", x.seed(5), 4711);
        DUE.is("sheets stay: how long", x.copy(3, 3, 3, 3, 0), 0);
        DUE.is("sheets stay: what there is", x.seen(3, 1, 1, 1, 2), 2 | 4);
        DUE.is("the image stays", x.restore(), 1);
        DUE.is("the image is as it was", x.count(1), 2);
        DUE.is("what may be undone of it, too", x.undo(), 0);
    }

    private static void nothingMayBeUndoneThen() {
        DeedTortoise x = new DeedTortoise();
        Twins.busy(x);
        DUE.is("ahead", x.count(6), 8);
        x.valley();
        DUE.is("how many may be undone", x.count(6), 0);
        DUE.is("undo", x.undo(), -4);
    }

    /** Each letter in each place of some texts, and whatever follows it. */
    private static void everyLetterEverywhere() {
        String[] texts = {"4:m1#2c9s#3g0l5m#1m;1-3=10,6-6=7 ", "0: mmmmm m6#4; 2 - 5 = 05 , 0-0=99"};
        for (String text : texts) {
            for (int place = 0; place <= text.length(); place++) {
                for (char letter = 32; letter <= 126; letter++) {
                    String rest = place < text.length() ? text.substring(place + 1) : "";
                    sameAsModel(text.substring(0, place) + letter + rest);
                    sameAsModel(text.substring(0, place) + letter);
                }
            }
        }
    }

    private static void sameAsModel(String text) {
        Model model = new Model();
        for (int k = 0; k < text.length(); k++) {
            model.call("type", new long[] {text.charAt(k)});
        }
        DUE.is("'" + text + "'", Due.valley(new DeedTortoise(), text), model.call("valley", new long[0]));
    }
}
