import java.lang.reflect.Method;
import java.util.Arrays;
import java.util.Random;

/** All promises: long runs of drawn calls, each answer compared with that of the model. */
public final class AgainstModel {
    // a text adds 82 calls at most: no object is used for more than the 512 that are told
    private static final int RUNS = 700, CALLS = 430;
    private static final Due DUE = new Due();

    /** Each call with the least and the most of its ordinary numbers. */
    private static final Object[][] ORDINARY = {
        {"field", 0, 6, 0, 4}, {"claim", 0, 6, 0, 6, 1, 99}, {"of", 0, 6, 0, 4}, {"at", 0, 5, 0, 2}, {"type", 32, 126},
        {"count", 0, 6}, {"days", 1, 40}, {"carry", 0, 6}, {"lettuce", 0, 6, 1, 9}, {"lay", 0, 6, 0, 4},
        {"undo"}, {"seed", 0, Integer.MAX_VALUE}, {"chance", 0, 6, 0, 9, 0, 1}, {"likely", 0, 9}, {"mean", 0, 6, 0, 1},
        {"right", 0, 5, 0, 9, 0, 2}, {"sure", 0, 9}, {"down", 0, 6, 0, 2}, {"keep", 1, 9, 0, 100}, {"early", 0, 6, 0, 100},
        {"next", 0, 40}, {"winter", 0, 6, 0, 4, 0, 10, 0, 1}, {"image"}, {"restore"},
        {"seen", 0, 3, 0, 3, 0, 20, 1, 8, 0, 2}, {"bore", 0, 6, 0, 3, 0, 3, 0, 20, 1, 8, 0, 1},
        {"film", 1, 24, 0, 3, 0, 3, 0, 10}, {"sheet", 0, 3, 0, 3, 0, 24}, {"drop", 0, 3},
        {"item", 0, 3, 0, 3, 0, 23, 0, 6}, {"copy", 0, 3, 0, 23, 0, 3, 0, 23, 0, 12},
    };
    private static final long[] EDGES = {-1, 0, 1, 2, 3, 4, 5, 7, 8, 9, 10, 11, 24, 25, 31, 40, 41, 99, 100, 101, 127,
        Integer.MAX_VALUE, Integer.MIN_VALUE, -2, 65536, 256, 1L << 32, Long.MIN_VALUE, Long.MAX_VALUE};

    private final Random random;
    private final DeedTortoise x = new DeedTortoise();
    private final Model model = new Model();
    private final int run;
    private int lane;

    private AgainstModel(int run) {
        this.run = run;
        this.random = new Random(run);
        this.lane = random.nextInt(4);
    }

    public static void main(String[] args) throws ReflectiveOperationException {
        for (int run = 0; run < RUNS; run++) {
            new AgainstModel(run).goOn();
        }
        DUE.end();
    }

    private void goOn() throws ReflectiveOperationException {
        // to the last day, in a few runs
        for (int k = 0; run % 50 == 0 && k < 245; k++) {
            call("days", 40);
        }
        for (int calls = run % 50 == 0 ? 245 : 0; calls < CALLS;) {
            int which = random.nextInt(40);
            if (which < 2) {
                calls += typeValley();
            } else if (which < 6) {
                calls += filmAndLook();
            } else {
                drawnCall(ORDINARY[random.nextInt(ORDINARY.length)]);
                calls++;
            }
        }
    }

    private void drawnCall(Object[] ordinary) throws ReflectiveOperationException {
        String name = (String) ordinary[0];
        long[] numbers = new long[ordinary.length / 2];
        for (int k = 0; k < numbers.length; k++) {
            int least = (Integer) ordinary[2 * k + 1];
            int most = (Integer) ordinary[2 * k + 2];
            boolean isEdge = random.nextInt(25) == 0;
            numbers[k] = isEdge ? EDGES[random.nextInt(EDGES.length)] : least + (long) (random.nextDouble() * (most - (double) least + 1));
        }
        // most rows are of one lane, so that calls about them mostly are not refused
        int laneAt = Arrays.asList("seen", "item", "sheet").contains(name) ? 1 : name.equals("film") || name.equals("bore") ? 2 : -1;
        if (laneAt >= 0 && random.nextInt(10) > 0) {
            numbers[laneAt] = lane;
        }
        call(name, numbers);
    }

    private static final String[] PARTS = {"m", "c", "s", "g", "l", "#", ";", ":", ",", "-", "=", "0", "1", "4", "5", "6", "7", "9", " ", "x", "00", "10"};

    private int typeValley() throws ReflectiveOperationException {
        StringBuilder text = new StringBuilder();
        text.append(random.nextInt(7)).append(':');
        for (int f = 0; f < 7; f++) {
            text.append("mcsgl".charAt(random.nextInt(5)));
            text.append(random.nextBoolean() ? "" + random.nextInt(10) : "");
            text.append(random.nextBoolean() ? "#" + (1 + random.nextInt(4)) : "");
        }
        int claims = random.nextInt(6);
        for (int c = 0; c < claims; c++) {
            int from = random.nextInt(7);
            text.append(c == 0 ? ';' : ',').append(from).append('-').append(from + random.nextInt(7 - from));
            text.append('=').append(1 + random.nextInt(99));
        }
        for (int edits = random.nextInt(4); edits > 0 && text.length() > 0; edits--) {
            edit(text);
        }
        int typed = Math.min(text.length(), 81);
        for (int k = 0; k < typed; k++) {
            call("type", text.charAt(k));
        }
        call("valley");
        return typed + 1;
    }

    private void edit(StringBuilder text) {
        int place = random.nextInt(text.length());
        String part = PARTS[random.nextInt(PARTS.length)];
        switch (random.nextInt(5)) {
            case 0 -> text.insert(place, part);
            case 1 -> text.replace(place, place + 1, part);
            case 2 -> text.deleteCharAt(place);
            case 3 -> text.insert(place, " ");
            default -> text.setLength(place + 1);
        }
    }

    /** A film, perhaps with an item changed, and what is to be made of it. */
    private int filmAndLook() throws ReflectiveOperationException {
        int sheet = random.nextInt(4);
        call("sheet", sheet, lane, 24);
        call("film", 24, sheet, lane, 0);
        if (random.nextInt(3) == 0) {
            call("item", sheet, lane, random.nextInt(8), random.nextInt(7));
        }
        int n = 1 + random.nextInt(8);
        int field = random.nextInt(7);
        for (int what = 0; what < 3; what++) {
            call("seen", sheet, lane, 0, n, what);
            call("bore", field, sheet, lane, 0, n, what);
        }
        return 9;
    }

    private void call(String name, long... numbers) throws ReflectiveOperationException {
        for (Method m : DeedTortoise.class.getDeclaredMethods()) {
            if (m.getName().equals(name)) {
                Object[] given = new Object[numbers.length];
                for (int k = 0; k < given.length; k++) {
                    if (m.getParameterTypes()[k] == int.class) {
                        numbers[k] = (int) numbers[k];
                        given[k] = (int) numbers[k];
                    } else {
                        given[k] = numbers[k];
                    }
                }
                long got = ((Number) m.invoke(x, given)).longValue();
                DUE.is("run " + run + ": " + name + Arrays.toString(numbers), got, model.call(name, numbers));
                return;
            }
        }
        throw new NoSuchMethodException(name);
    }
}
