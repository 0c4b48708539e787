import java.util.List;

/** Calls on objects made alike: what such a call answers, and whether it leaves all as it is. */
final class Twins {
    /** What is called on an object ahead of that which is looked at. */
    interface Ahead {
        void on(DeedTortoise x);
    }

    interface Call {
        long on(DeedTortoise x);
    }

    /** A call with one of its numbers left open. */
    interface Open {
        long on(DeedTortoise x, int number);
    }

    private final Due due;
    private final Ahead ahead;
    private final List<Long> untouched;

    Twins(Due due, Ahead ahead) {
        this.due = due;
        this.ahead = ahead;
        this.untouched = State.of(made());
    }

    private DeedTortoise made() {
        DeedTortoise x = new DeedTortoise();
        ahead.on(x);
        return x;
    }

    /** The call answers so. */
    void is(String call, long want, Call made) {
        due.is(call, made.on(made()), want);
    }

    /** The call answers so and changes nothing. */
    void stays(String call, long want, Call made) {
        DeedTortoise x = made();
        due.is(call, made.on(x), want);
        due.isTrue(call + " changes nothing", State.of(x).equals(untouched));
    }

    /** The call is not refused, and changes nothing. */
    void leaves(String call, Call made) {
        DeedTortoise x = made();
        due.isTrue(call + " is taken", made.on(x) >= 0);
        due.isTrue(call + " changes nothing", State.of(x).equals(untouched));
    }

    /** A number is BAD right below the least and right above the most, and far from them; the bounds are not BAD. */
    void bounds(String call, int least, int most, Open made) {
        tooSmall(call, least, made);
        tooLarge(call, most, made);
        for (int number : new int[] {least, most}) {
            due.isTrue(call + " with " + number + " is not BAD", made.on(made(), number) != -1);
        }
    }

    void tooSmall(String call, int least, Open made) {
        stays(call + " with " + (least - 1), -1, x -> made.on(x, least - 1));
        stays(call + " with the least int", -1, x -> made.on(x, Integer.MIN_VALUE));
    }

    void tooLarge(String call, int most, Open made) {
        stays(call + " with " + (most + 1), -1, x -> made.on(x, most + 1));
        stays(call + " with the most int", -1, x -> made.on(x, Integer.MAX_VALUE));
    }

    /**
     * Something of everything: claims, an image of another time, eight things to be undone, a tape that is a valley,
     * rows of ints (24 items), bytes (3) and longs (none); sheet 3 holds nothing. The tortoise is on field 3.
     */
    static void busy(DeedTortoise x) {
        busyWithoutTape(x);
        Due.type(x, "3:mmmmmmm;2-5=7");
    }

    static void busyWithoutTape(DeedTortoise x) {
        Due.valley(x, "1:c3#1s2m#4g7#2lc9#3m5;0-2=40,2-6=99");
        x.seed(40);
        x.lettuce(2, 3);
        x.carry(4);
        x.days(2);
        x.image();
        x.lay(4, 2);
        x.days(4);
        x.lettuce(1, 1);
        x.lettuce(6, 2);
        x.lay(0, 3);
        x.carry(3);
        Due.row(x, 0, 2, 3, 4, 5, 6, 5, 4, 3, 2, 1, 0, 0, 1, 2, 2, 3, 3, 4, 4, 5, 5, 6, 6, 5, 4);
        Due.row(x, 1, 0, 6, 0, 6);
        x.sheet(2, 3, 0);
    }
}
