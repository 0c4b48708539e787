/** Compares answers with those that are due, and ends a test with exit code 1 if one was not. */
final class Due {
    private int wrong = 0;
    private int compared = 0;

    void is(String call, long got, long want) {
        compared++;
        if (got != want) {
            wrong++;
            System.out.println(call + " answered " + got + ", due is " + want);
        }
    }

    /** Every one of the answers is BAD. */
    void bad(String calls, long... answers) {
        for (int k = 0; k < answers.length; k++) {
            is(calls + ", no. " + k, answers[k], -1);
        }
    }

    void isTrue(String what, boolean holds) {
        is(what, holds ? 1 : 0, 1);
    }

    void end() {
        System.out.println(compared + " compared, " + wrong + " not as due");
        if (wrong != 0 || compared == 0) {
            System.exit(1);
        }
    }

    /** The text is typed on the tape and becomes the valley. */
    static int valley(DeedTortoise x, String text) {
        for (int k = 0; k < text.length(); k++) {
            x.type(text.charAt(k));
        }
        return x.valley();
    }

    /** The numbers come to a sheet as a new row of a lane. */
    static void row(DeedTortoise x, int sheet, int lane, long... items) {
        x.sheet(sheet, lane, items.length);
        for (int k = 0; k < items.length; k++) {
            x.item(sheet, lane, k, items[k]);
        }
    }
}
