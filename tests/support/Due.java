import java.math.BigInteger;

/** Compares answers with those that are due, and ends a test with exit code 1 if one was not. */
final class Due {
    private int wrong = 0;
    private int compared = 0;

    void is(String call, long got, long want) {
        compared++;
        if (got != want) {
            wrong++;
            System.out.println(call + " answered " + got + ", due is " + want);
        }
    }

    /** Every one of the answers is BAD. */
    void bad(String calls, long... answers) {
        for (int k = 0; k < answers.length; k++) {
            is(calls + ", no. " + k, answers[k], -1);
        }
    }

    void isTrue(String what, boolean holds) {
        is(what, holds ? 1 : 0, 1);
    }

    void end() {
        System.out.println(compared + " compared, " + wrong + " not as due");
        if (wrong != 0 || compared == 0) {
            System.exit(1);
        }
    }

    /** The text is typed on the tape and becomes the valley. */
    static int valley(DeedTortoise x, String text) {
        type(x, text);
        return x.valley();
    }

    /** The text comes behind the tape: how many letters it has then. */
    static int type(DeedTortoise x, String text) {
        int typed = 0;
        for (int k = 0; k < text.length(); k++) {
            typed = x.type(text.charAt(k));
        }
        return typed;
    }

    /** The next draw after a draw of v, by whole numbers of any length. */
    static int drawAfter(int v) {
        return BigInteger.valueOf(v).multiply(BigInteger.valueOf(1103515245)).add(BigInteger.valueOf(12345))
            .mod(BigInteger.TWO.pow(31)).intValueExact();
    }

    /** A draw by which the numbers of the next days are these, each 0 to 9. */
    static int drawAheadOf(int... numbers) {
        for (int v = 0; v < 10000000; v++) {
            int draw = v;
            int right = 0;
            while (right < numbers.length) {
                draw = drawAfter(draw);
                if (draw / 65536 % 10 != numbers[right]) {
                    break;
                }
                right++;
            }
            if (right == numbers.length) {
                return v;
            }
        }
        throw new IllegalArgumentException("no such draw was found");
    }

    /** The numbers come to a sheet as a new row of a lane. */
    static void row(DeedTortoise x, int sheet, int lane, long... items) {
        x.sheet(sheet, lane, items.length);
        for (int k = 0; k < items.length; k++) {
            x.item(sheet, lane, k, items[k]);
        }
    }
}
