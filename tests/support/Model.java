import java.math.BigInteger;
import java.util.ArrayDeque;
import java.util.ArrayList;
import java.util.Arrays;
import java.util.List;
import java.util.regex.Matcher;
import java.util.regex.Pattern;

/** The document once more, written apart from the class and by other ways: slow, with the whole Java library. */
final class Model {
    /** A fraction; Java's own numbers keep it exact whatever comes. */
    record Ratio(BigInteger above, BigInteger below) {
        static Ratio of(long above, long below) {
            return cut(BigInteger.valueOf(above), BigInteger.valueOf(below));
        }

        private static Ratio cut(BigInteger a, BigInteger b) {
            BigInteger g = a.gcd(b);
            return b.signum() < 0 ? new Ratio(a.negate().divide(g), b.negate().divide(g)) : new Ratio(a.divide(g), b.divide(g));
        }

        Ratio plus(Ratio o) {
            return cut(above.multiply(o.below).add(o.above.multiply(below)), below.multiply(o.below));
        }

        Ratio minus(Ratio o) {
            return plus(new Ratio(o.above.negate(), o.below));
        }

        Ratio times(Ratio o) {
            return cut(above.multiply(o.above), below.multiply(o.below));
        }

        Ratio by(Ratio o) {
            return cut(above.multiply(o.below), below.multiply(o.above));
        }

        int compare(Ratio o) {
            return above.multiply(o.below).compareTo(o.above.multiply(below));
        }

        boolean isNone() {
            return above.signum() == 0;
        }

        long tell(long what) {
            return (what == 0 ? above : below).longValueExact();
        }
    }

    private static final Ratio NOTHING = Ratio.of(0, 1), ALL = Ratio.of(1, 1);

    /** What may be undone to. */
    private static final class Spot implements Cloneable {
        int where, day;
        long draw = 1;
        int[] food = new int[7], hedge = new int[7];

        Spot twin() {
            Spot s = new Spot();
            s.where = where;
            s.day = day;
            s.draw = draw;
            s.food = food.clone();
            s.hedge = hedge.clone();
            return s;
        }
    }

    private record Kept(int[] kind, Spot spot, List<int[]> claims, List<Spot> past) { }

    private int[] kind = new int[7];
    private Spot spot = new Spot();
    private List<int[]> claims = new ArrayList<>();
    private ArrayDeque<Spot> past = new ArrayDeque<>();
    private Kept image = null;
    private final StringBuilder tape = new StringBuilder();
    private final long[][] rows = new long[4][];
    private final int[] lanes = new int[4];

    private static boolean in(long v, long from, long to) {
        return from <= v && v <= to;
    }

    long call(String name, long[] a) {
        return switch (name) {
            case "field" -> field(a[0], a[1]);
            case "claim" -> claim(a[0], a[1], a[2]);
            case "of" -> !in(a[0], 0, 6) || !in(a[1], 0, 4) ? -1 : about((int) a[0], (int) a[1]);
            case "at" -> !in(a[0], 0, claims.size() - 1) || !in(a[1], 0, 2) ? -1 : claims.get((int) a[0])[(int) a[1]];
            case "type" -> type(a[0]);
            case "valley" -> valley();
            case "count" -> count(a[0]);
            case "days" -> days(a[0]);
            case "carry" -> carry(a[0]);
            case "lettuce" -> lettuce(a[0], a[1]);
            case "lay" -> lay(a[0], a[1]);
            case "undo" -> undo();
            case "seed" -> seed(a[0]);
            case "image" -> image();
            case "restore" -> restore();
            case "sheet" -> sheet(a[0], a[1], a[2]);
            case "drop" -> drop(a[0]);
            case "item" -> item(a[0], a[1], a[2], a[3]);
            case "copy" -> copy(a[0], a[1], a[2], a[3], a[4]);
            case "seen" -> seen(a[0], a[1], a[2], a[3], a[4]);
            case "bore" -> bore(a[0], a[1], a[2], a[3], a[4], a[5]);
            case "film" -> film(a[0], a[1], a[2], a[3]);
            default -> foretold(name, a);
        };
    }

    private long foretold(String name, long[] a) {
        return switch (name) {
            case "chance" -> !in(a[0], 0, 6) || !in(a[1], 0, 9) || !in(a[2], 0, 1) ? -1
                : odds(kind, spot, (int) a[0], a[1], 0).tell(a[2]);
            case "likely" -> likely(a[0]);
            case "mean" -> !in(a[0], spot.where, 6) || !in(a[1], 0, 1) ? -1 : mean(spot, (int) a[0]).tell(a[1]);
            case "right" -> right(a[0], a[1], a[2]);
            case "sure" -> sure(a[0]);
            case "down" -> down(a[0], a[1]);
            case "keep" -> keep(a[0], a[1]);
            case "early" -> early(a[0], a[1]);
            case "next" -> !in(a[0], 0, 40) ? -1 : a[0] == 0 ? spot.where : walk(kind, spot, (int) a[0])[(int) a[0] - 1];
            case "winter" -> !in(a[0], 0, 6) || !in(a[1], 0, 4) || !in(a[2], 0, 10) || !in(a[3], 0, 1) ? -1
                : odds(kind, spot, (int) a[0], a[1], a[2]).tell(a[3]);
            default -> throw new IllegalArgumentException(name);
        };
    }

    // ---- 1

    private static int on(int[] kinds, int[] food, int f) {
        if (f == 6) {
            return 0;
        }
        int clover = 5 - food[f] / 2;
        int stubble = food[f] == 0 ? 7 : 5;
        int garden = clover - 3 < 1 ? 1 : clover - 3;
        return new int[] {5, clover, stubble, garden, stubble + 2}[kinds[f]];
    }

    private static int back(int[] kinds, Spot s, int f) {
        int left = 10 - on(kinds, s.food, f);
        return f == 0 ? 0 : s.hedge[f] < left ? s.hedge[f] : left;
    }

    private long field(long f, long k) {
        if (!in(f, 0, 6) || !in(k, 0, 4)) {
            return -1;
        }
        int was = kind[(int) f];
        kind[(int) f] = (int) k;
        past.clear();
        return was;
    }

    private long claim(long from, long to, long worth) {
        if (!in(from, 0, 6) || !in(to, from, 6) || !in(worth, 1, 99)) {
            return -1;
        }
        if (claims.size() == 5) {
            return -3;
        }
        claims.add(new int[] {(int) from, (int) to, (int) worth});
        past.clear();
        return claims.size() - 1;
    }

    private long about(int f, int what) {
        return new int[] {kind[f], spot.food[f], spot.hedge[f], on(kind, spot.food, f), back(kind, spot, f)}[what];
    }

    private long type(long letter) {
        if (!in(letter, 32, 126)) {
            return -1;
        }
        if (tape.length() == 80) {
            return -3;
        }
        tape.append((char) letter);
        return tape.length();
    }

    private static final String CLAIM =
        "(0 *- *[0-6]|1 *- *[1-6]|2 *- *[2-6]|3 *- *[3-6]|4 *- *[4-6]|5 *- *[5-6]|6 *- *6) *= *[0-9]{1,2}";
    private static final Pattern VALLEY = Pattern.compile(
        " *[0-6] *:( *[mcsgl]( *[0-9])?( *# *[1-4])?){7}( *; *" + CLAIM + "( *, *" + CLAIM + "){0,4})? *");
    private static final Pattern NO_WORTH = Pattern.compile("= *(00|0(?![0-9]))");

    /** The first letter with which the text is not the beginning of any valley; numbers' values apart. */
    private static int firstThatCannotStand(String text) {
        for (int end = 0; end <= text.length(); end++) {
            Matcher m = VALLEY.matcher(text.substring(0, end));
            if (!m.matches() && !m.hitEnd()) {
                return end - 1;
            }
        }
        return VALLEY.matcher(text).matches() ? -1 : text.length();
    }

    private long valley() {
        String text = tape.toString();
        tape.setLength(0);
        int fault = firstThatCannotStand(text);
        Matcher number = NO_WORTH.matcher(text);
        if (number.find() && (fault < 0 || number.start(1) < fault)) {
            fault = number.start(1);
        }
        if (fault >= 0) {
            return -20 - fault;
        }
        String[] halves = text.replace(" ", "").split("[:;]");
        long draw = spot.draw;
        spot = new Spot();
        spot.draw = draw;
        spot.where = Integer.parseInt(halves[0]);
        Matcher m = Pattern.compile("([mcsgl])([0-9])?(?:#([1-4]))?").matcher(halves[1]);
        for (int f = 0; m.find(); f++) {
            kind[f] = "mcsgl".indexOf(m.group(1));
            spot.food[f] = m.group(2) == null ? 0 : Integer.parseInt(m.group(2));
            spot.hedge[f] = m.group(3) == null ? 0 : Integer.parseInt(m.group(3));
        }
        claims = new ArrayList<>();
        for (String c : halves.length < 3 ? new String[0] : halves[2].split(",")) {
            claims.add(Arrays.stream(c.split("[-=]")).mapToInt(Integer::parseInt).toArray());
        }
        past.clear();
        return claims.size();
    }

    private long count(long what) {
        return switch ((int) what) {
            case 0 -> claims.size();
            case 1 -> spot.where;
            case 2 -> spot.day;
            case 3 -> Arrays.stream(spot.food).sum();
            case 4 -> Arrays.stream(spot.hedge).sum();
            case 5 -> {
                long set = 0;
                for (int[] c : claims) {
                    set |= in(spot.where, c[0], c[1]) ? 1L << claims.indexOf(c) : 0;
                }
                yield set;
            }
            case 6 -> past.size();
            default -> -1;
        };
    }

    private static void day(int[] kinds, Spot s) {
        s.draw = BigInteger.valueOf(s.draw).multiply(BigInteger.valueOf(1103515245)).add(BigInteger.valueOf(12345))
            .mod(BigInteger.TWO.pow(31)).longValueExact();
        long drawn = s.draw / 65536 % 10;
        int on = on(kinds, s.food, s.where);
        int back = back(kinds, s, s.where);
        if (drawn < on) {
            s.where++;
        } else if (drawn < on + back) {
            s.where--;
        } else if (s.food[s.where] > 0) {
            s.food[s.where]--;
        }
        s.day++;
    }

    private static int[] walk(int[] kinds, Spot from, int n) {
        Spot s = from.twin();
        int[] walked = new int[n];
        for (int d = 0; d < n; d++) {
            day(kinds, s);
            walked[d] = s.where;
        }
        return walked;
    }

    private void note() {
        past.addLast(spot.twin());
        if (past.size() > 8) {
            past.removeFirst();
        }
    }

    private long days(long n) {
        if (!in(n, 1, 40)) {
            return -1;
        }
        if (spot.day + n > 9999) {
            return -3;
        }
        for (int d = 0; d < n; d++) {
            note();
            day(kind, spot);
        }
        return spot.where;
    }

    private long carry(long f) {
        if (!in(f, 0, 6)) {
            return -1;
        }
        if (spot.where == f) {
            return -2;
        }
        note();
        int was = spot.where;
        spot.where = (int) f;
        return was;
    }

    private long lettuce(long f, long n) {
        if (!in(f, 0, 6) || !in(n, 1, 9)) {
            return -1;
        }
        if (spot.food[(int) f] == 9) {
            return -2;
        }
        note();
        return spot.food[(int) f] = (int) Math.min(9, spot.food[(int) f] + n);
    }

    private long lay(long f, long h) {
        if (!in(f, 0, 6) || !in(h, 0, 4)) {
            return -1;
        }
        int was = spot.hedge[(int) f];
        if (was == h) {
            return -2;
        }
        note();
        spot.hedge[(int) f] = (int) h;
        return was;
    }

    private long undo() {
        if (past.isEmpty()) {
            return -4;
        }
        spot = past.removeLast();
        return past.size();
    }

    private long seed(long v) {
        if (v < 0) {
            return -1;
        }
        long was = spot.draw;
        spot.draw = v;
        return was;
    }

    // ---- 2

    /** By every way that it may go; on a winter's day it sleeps by c of 10. */
    private static Ratio odds(int[] kinds, Spot s, int to, long n, long c) {
        if (n == 0) {
            return s.where == to ? ALL : NOTHING;
        }
        if (Math.abs(to - s.where) > n) {
            return NOTHING;
        }
        int on = on(kinds, s.food, s.where);
        int back = back(kinds, s, s.where);
        Ratio awake = Ratio.of(10 - c, 10);
        Ratio odds = NOTHING;
        int[] parts = {back, 10 - on - back, on};
        for (int step = -1; step <= 1; step++) {
            Ratio part = Ratio.of(parts[step + 1], 10).times(awake).plus(step == 0 ? Ratio.of(c, 10) : NOTHING);
            if (!part.isNone()) {
                Spot then = s.twin();
                then.where += step;
                odds = odds.plus(part.times(odds(kinds, then, to, n - 1, c)));
            }
        }
        return odds;
    }

    private long likely(long n) {
        if (!in(n, 0, 9)) {
            return -1;
        }
        int best = 6;
        for (int f = 5; f >= 0; f--) {
            best = odds(kind, spot, f, n, 0).compare(odds(kind, spot, best, n, 0)) >= 0 ? f : best;
        }
        return best;
    }

    /** The days m(f) from every field f: m(f) = 1 + by parts m(f - 1), m(f), m(f + 1), solved from the last one. */
    private Ratio mean(Spot s, int to) {
        if (s.where == to) {
            return NOTHING;
        }
        Ratio[][] rows = new Ratio[to][to + 1];
        for (int f = 0; f < to; f++) {
            Arrays.fill(rows[f], NOTHING);
            int on = on(kind, s.food, f);
            int back = back(kind, s, f);
            rows[f][f] = Ratio.of(on + back, 10);
            if (f > 0) {
                rows[f][f - 1] = Ratio.of(-back, 10);
            }
            if (f + 1 < to) {
                rows[f][f + 1] = Ratio.of(-on, 10);
            }
            rows[f][to] = ALL;
        }
        for (int p = to - 1; p >= 0; p--) {
            for (int r = 0; r < to; r++) {
                if (r != p && !rows[r][p].isNone()) {
                    Ratio by = rows[r][p].by(rows[p][p]);
                    for (int k = 0; k <= to; k++) {
                        rows[r][k] = rows[r][k].minus(by.times(rows[p][k]));
                    }
                }
            }
        }
        return rows[s.where][to].by(rows[s.where][s.where]);
    }

    private long right(long c, long n, long what) {
        if (!in(c, 0, claims.size() - 1) || !in(n, 0, 9) || !in(what, 0, 2)) {
            return -1;
        }
        int[] claim = claims.get((int) c);
        Ratio r = NOTHING;
        for (int f = claim[0]; f <= claim[1]; f++) {
            r = r.plus(odds(kind, spot, f, n, 0));
        }
        return what < 2 ? r.tell(what) : r.above.multiply(BigInteger.valueOf(claim[2])).divide(r.below).longValueExact();
    }

    private long sure(long n) {
        if (!in(n, 0, 9)) {
            return -1;
        }
        long set = 0;
        for (int f = 0; f < 7; f++) {
            set += odds(kind, spot, f, n, 0).isNone() ? 0 : 1L << f;
        }
        return set;
    }

    private long down(long f, long what) {
        if (!in(f, spot.where, 6) || !in(what, 0, 2)) {
            return -1;
        }
        int best = -1;
        Ratio least = null;
        for (int h = 0; h < 7; h++) {
            Spot s = spot.twin();
            s.hedge[h] = 0;
            Ratio mean = mean(s, (int) f);
            if (least == null || mean.compare(least) < 0) {
                best = h;
                least = mean;
            }
        }
        return what == 0 ? best : least.tell(what - 1);
    }

    private long keep(long n, long c) {
        if (!in(n, 1, 9) || !in(c, 0, 100)) {
            return -1;
        }
        for (int food = 0; food < 10; food++) {
            Spot s = spot.twin();
            s.food[s.where] = food;
            if (odds(kind, s, s.where, n, 0).compare(Ratio.of(c, 100)) >= 0) {
                return food;
            }
        }
        return -4;
    }

    private long early(long f, long c) {
        if (!in(f, 0, 6) || !in(c, 0, 100)) {
            return -1;
        }
        for (int n = 0; n < 10; n++) {
            if (odds(kind, spot, (int) f, n, 0).compare(Ratio.of(c, 100)) >= 0) {
                return n;
            }
        }
        return -4;
    }

    private static Kept keptOf(int[] kind, Spot spot, List<int[]> claims, Iterable<Spot> past) {
        List<Spot> twins = new ArrayList<>();
        for (Spot s : past) {
            twins.add(s.twin());
        }
        return new Kept(kind.clone(), spot.twin(), new ArrayList<>(claims), twins);
    }

    private long image() {
        image = keptOf(kind, spot, claims, past);
        return 1;
    }

    private long restore() {
        if (image == null) {
            return -4;
        }
        Kept k = keptOf(image.kind, image.spot, image.claims, image.past);
        kind = k.kind;
        spot = k.spot;
        claims = k.claims;
        past = new ArrayDeque<>(k.past);
        return 1;
    }

    // ---- 3

    private long sheet(long s, long lane, long n) {
        if (!in(s, 0, 3) || !in(lane, 0, 3) || n > 24) {
            return -1;
        }
        if (n < 0) {
            return -14;
        }
        rows[(int) s] = new long[(int) n];
        lanes[(int) s] = (int) lane;
        return n;
    }

    private long drop(long s) {
        if (!in(s, 0, 3)) {
            return -1;
        }
        if (rows[(int) s] == null) {
            return -11;
        }
        int had = rows[(int) s].length;
        rows[(int) s] = null;
        return had;
    }

    /** 1: n items from i on may be taken as of the lane. */
    private long check(long s, long lane, long i, long n) {
        long[] row = rows[(int) s];
        if (row == null) {
            return -11;
        }
        if (lanes[(int) s] != lane) {
            return -12;
        }
        return i < 0 || n < 0 || i + n > row.length ? -13 : 1;
    }

    private void put(int s, int i, long v) {
        rows[s][i] = new long[] {(byte) v, (short) v, (int) v, v}[lanes[s]];
    }

    private long item(long s, long lane, long i, long v) {
        if (!in(s, 0, 3) || !in(lane, 0, 3)) {
            return -1;
        }
        long check = check(s, lane, i, 1);
        if (check == 1) {
            put((int) s, (int) i, v);
        }
        return check;
    }

    private long copy(long from, long i, long to, long j, long n) {
        if (!in(from, 0, 3) || !in(to, 0, 3)) {
            return -1;
        }
        if (rows[(int) from] == null || rows[(int) to] == null) {
            return -11;
        }
        int lane = lanes[(int) from];
        if (lanes[(int) to] != lane) {
            return -12;
        }
        if (check(from, lane, i, n) != 1 || check(to, lane, j, n) != 1) {
            return -13;
        }
        long[] taken = Arrays.copyOfRange(rows[(int) from], (int) i, (int) (i + n));
        for (int k = 0; k < n; k++) {
            rows[(int) to][(int) j + k] = taken[k];
        }
        return n;
    }

    private Ratio told(int from, long[] row) {
        Spot s = spot.twin();
        s.where = from;
        Ratio odds = ALL;
        for (long v : row) {
            if (!in(v, 0, 6)) {
                return NOTHING;
            }
            odds = odds.times(odds(kind, s, (int) v, 1, 0));
            s.where = (int) v;
        }
        return odds;
    }

    private long seen(long s, long lane, long i, long n, long what) {
        if (!in(s, 0, 3) || !in(lane, 0, 3) || !in(n, 1, 8) || !in(what, 0, 2)) {
            return -1;
        }
        if (check(s, lane, i, n) != 1) {
            return check(s, lane, i, n);
        }
        long[] row = Arrays.copyOfRange(rows[(int) s], (int) i, (int) (i + n));
        if (what < 2) {
            return told(spot.where, row).tell(what);
        }
        long set = 0;
        for (int f = 0; f < 7; f++) {
            set += told(f, row).isNone() ? 0 : 1L << f;
        }
        return set;
    }

    private long bore(long f, long s, long lane, long i, long n, long what) {
        if (!in(f, 0, 6) || !in(s, 0, 3) || !in(lane, 0, 3) || !in(n, 1, 8) || !in(what, 0, 1)) {
            return -1;
        }
        if (check(s, lane, i, n) != 1) {
            return check(s, lane, i, n);
        }
        long[] row = Arrays.copyOfRange(rows[(int) s], (int) i, (int) (i + n));
        long set = 0;
        for (int k = 0; k < (what == 0 ? 5 : 10); k++) {
            int[] kinds = kind.clone();
            Spot from = spot.twin();
            (what == 0 ? kinds : from.food)[(int) f] = k;
            long[] walked = Arrays.stream(walk(kinds, from, (int) n)).asLongStream().toArray();
            set += Arrays.equals(walked, row) ? 1L << k : 0;
        }
        return set;
    }

    private long film(long n, long s, long lane, long i) {
        if (!in(n, 1, 24) || !in(s, 0, 3) || !in(lane, 0, 3)) {
            return -1;
        }
        if (check(s, lane, i, n) != 1) {
            return check(s, lane, i, n);
        }
        int[] walked = walk(kind, spot, (int) n);
        for (int k = 0; k < n; k++) {
            put((int) s, (int) i + k, walked[k]);
        }
        return n;
    }
}
