import java.util.ArrayList;
import java.util.HashSet;
import java.util.List;
import java.util.Random;
import java.util.Set;
import java.util.regex.Matcher;
import java.util.regex.Pattern;

/**
 * Random runs of calls, the same on a GuiltBell and on a second, slow writing of the document that shares no code
 * with it: texts by patterns, GIVERS as objects, SHEETS as real rows whose faults the Java machine does find.
 */
public final class GuiltBellModel {
    private static final int BAD = -1, STATE = -2, FULL = -3, NONE = -4;
    private static final int RUNS = 400, CALLS = 300;
    /** An object is used for 512 calls at most; a text takes up to 162 of them. */
    private static final int MOST_CALLS = 512, CALLS_OF_TEXT = 162;

    private static final class Person {
        int kind, guilt, metal, deed, sorry, holds;

        Person copy() {
            Person p = new Person();
            p.kind = kind;
            p.guilt = guilt;
            p.metal = metal;
            p.deed = deed;
            p.sorry = sorry;
            p.holds = holds;
            return p;
        }

        int owes() {
            return kind == 0 ? guilt : kind == 1 ? guilt / 2 : kind == 2 ? guilt + guilt : guilt + guilt + 3;
        }
    }

    private static final class World {
        List<Person> people = new ArrayList<>();
        int[] added = new int[3], worn = new int[3];
        int asked = 6, least = 0, struck = 0;

        World copy() {
            World w = new World();
            for (Person p : people) w.people.add(p.copy());
            w.added = added.clone();
            w.worn = worn.clone();
            w.asked = asked;
            w.least = least;
            w.struck = struck;
            return w;
        }

        int full(Person p) {
            long of = people.stream().filter(q -> q.deed == p.deed).count();
            boolean all = people.stream().filter(q -> q.deed == p.deed).allMatch(q -> q.sorry == 1);
            return of >= 2 && all ? (int) Math.ceil(p.owes() / 2.0) : p.owes();
        }

        int gives(Person p) {
            int left = full(p) - p.holds;
            return left < 0 ? 0 : left;
        }

        int[] gifts() {
            return people.stream().mapToInt(this::gives).toArray();
        }

        int amount(int m, int[] gifts) {
            int sum = 0;
            for (int g = 0; g < gifts.length; g++) if (people.get(g).metal == m) sum += gifts[g];
            if (m == 3) return sum;
            sum = sum + added[m] - worn[m];
            return sum < 0 ? 0 : sum;
        }

        int weight(int[] gifts) {
            return amount(0, gifts) + amount(1, gifts) + amount(2, gifts);
        }

        int note(int[] gifts) {
            if (weight(gifts) == 0) return NONE;
            return (12 * amount(0, gifts) + 6 * amount(1, gifts) + 3 * amount(2, gifts)) / weight(gifts);
        }

        int sweet(int[] gifts) {
            return weight(gifts) == 0 ? 0 : 10 * amount(2, gifts) / weight(gifts);
        }

        boolean isTrue(int[] gifts) {
            return note(gifts) == asked && sweet(gifts) >= least;
        }

        int tapped(int i) {
            int[] gifts = gifts();
            int sum = i * weight(gifts);
            for (int g = 0; g < gifts.length; g++) sum += gifts[g] * (1 + (i + g) % 3);
            return sum % 10;
        }

        void strike() {
            struck++;
            int[] gifts = gifts();
            if (struck % 5 != 0 || weight(gifts) == 0) return;
            int tin = amount(0, gifts), copper = amount(1, gifts), silver = amount(2, gifts);
            if (tin >= copper && tin >= silver) worn[0]++;
            else if (copper >= silver) worn[1]++;
            else worn[2]++;
        }
    }

    private World world = new World();
    private final World[] images = new World[2];
    private final Object[] sheets = new Object[4];
    private final List<int[]> seen = new ArrayList<>();
    private String tape = "";
    private int fault = 0, faultPlace = 0, torn = 0;
    private int calls = 0;

    // ---- the text

    private static final Pattern TOKEN = Pattern.compile(" *(?:([a-z]+)|([0-9]+)|(;))");
    private int readAt;
    private String token;

    private static final class Refused extends Exception {
        private static final long serialVersionUID = 1L;
    }

    private Refused refused(int what, int place) {
        fault = what;
        faultPlace = place;
        return new Refused();
    }

    /** The place of the TOKEN, or of the end ("" then). */
    private int token() throws Refused {
        if (tape.substring(readAt).isBlank() && tape.substring(readAt).replace(" ", "").isEmpty()) {
            token = "";
            return tape.length();
        }
        Matcher m = TOKEN.matcher(tape).region(readAt, tape.length());
        if (!m.lookingAt()) {
            int at = readAt;
            while (tape.charAt(at) == ' ') at++;
            throw refused(1, at);
        }
        token = m.group().trim();
        if (m.group(2) != null && token.length() > 2) throw refused(1, m.start(2));
        readAt = m.end();
        return m.end() - token.length();
    }

    private int name(List<String> names) throws Refused {
        int at = token();
        if (!names.contains(token)) throw refused(2, at);
        return names.indexOf(token);
    }

    private int number(int low, int high, Set<Integer> already) throws Refused {
        int at = token();
        if (!token.matches("[0-9]+")) throw refused(2, at);
        int v = Integer.parseInt(token);
        if (v < low || v > high) throw refused(3, at);
        if (already != null && !already.add(v)) throw refused(4, at);
        return v;
    }

    private int lines(World w) throws Refused {
        Set<Integer> sorry = new HashSet<>(), holds = new HashSet<>(), adds = new HashSet<>();
        int[] held = new int[4];
        int lines = 0;
        boolean asks = false;
        while (true) {
            int at = token();
            if (token.isEmpty()) break;
            int which = List.of("plain", "mayor", "maid", "deaf", "sorry", "hold", "add", "ask").indexOf(token);
            if (which < 0) throw refused(2, at);
            if (which < 4) {
                if (w.people.size() == 4) throw refused(5, at);
                Person p = new Person();
                p.kind = which;
                p.metal = name(List.of("tin", "copper", "silver", "iron"));
                p.guilt = number(0, 9, null);
                p.deed = number(0, 3, null);
                w.people.add(p);
            } else if (which == 4) {
                number(0, 3, sorry);
            } else if (which == 5) {
                int g = number(0, 3, holds);
                held[g] = number(0, 9, null);
            } else if (which == 6) {
                int m = name(List.of("tin", "copper", "silver"));
                if (!adds.add(m)) throw refused(4, readAt - token.length());
                w.added[m] = number(0, 40, null);
            } else {
                if (asks) throw refused(4, at);
                asks = true;
                w.asked = number(3, 12, null);
                w.least = number(0, 10, null);
            }
            name(List.of(";"));
            lines++;
        }
        for (int g = 0; g < 4; g++) {
            if (g >= w.people.size() && (sorry.contains(g) || holds.contains(g))) throw refused(6, tape.length());
            if (g >= w.people.size()) continue;
            w.people.get(g).sorry = sorry.contains(g) ? 1 : 0;
            w.people.get(g).holds = held[g];
        }
        return lines;
    }

    int text() {
        World w = new World();
        readAt = 0;
        try {
            int lines = lines(w);
            world = w;
            seen.clear();
            images[0] = null;
            images[1] = null;
            fault = 0;
            return lines;
        } catch (Refused e) {
            return -10 - faultPlace;
        } finally {
            tape = "";
        }
    }

    // ---- all calls, by name

    private static boolean in(long v, long low, long high) {
        return low <= v && v <= high;
    }

    long call(String name, int[] a) {
        switch (name) {
            case "feed":
                if (!in(a[0], 0, 127)) return BAD;
                if (tape.length() == 160) return FULL;
                tape += (char) a[0];
                return tape.length();
            case "end": {
                int had = tape.length();
                if (!in(a[0], 0, had)) return BAD;
                tape = tape.substring(0, a[0]);
                return had;
            }
            case "text": return text();
            case "fault": return fault;
            case "rule": case "giver": case "metal": case "bell": case "tap": case "count": return whatThereIs(name, a);
            case "alter": case "add": case "ask": case "ring": return change(name, a);
            case "mean": case "luck": return liars(name, a);
            case "see": case "forget": case "fits": case "range": case "next": return guesses(name, a);
            case "drift": return drift(a);
            case "keep": case "back": return image(name, a);
            case "sheet": case "lay": case "read": case "torn": return sheet(name, a);
            default: return whatItShouldBe(name, a);
        }
    }

    private boolean noGiver(int g) {
        return !in(g, 0, world.people.size() - 1);
    }

    private long whatThereIs(String name, int[] a) {
        int[] gifts = world.gifts();
        switch (name) {
            case "rule": {
                int sorry = 0, holds = 0;
                for (int g = 0; g < gifts.length; g++) {
                    sorry += world.people.get(g).sorry << g;
                    if (world.people.get(g).holds > 0) holds += 1 << g;
                }
                int[] all = {gifts.length, world.asked, world.least, world.struck, sorry, holds};
                return in(a[0], 0, 5) ? all[a[0]] : BAD;
            }
            case "giver": {
                if (noGiver(a[0]) || !in(a[1], 0, 7)) return BAD;
                Person p = world.people.get(a[0]);
                return new int[] {p.kind, p.guilt, p.metal, p.deed, p.sorry, p.holds, p.owes(), gifts[a[0]]}[a[1]];
            }
            case "metal":
                if (a[0] == 3 && a[1] == 0) return world.amount(3, gifts);
                if (!in(a[0], 0, 2) || !in(a[1], 0, 2)) return BAD;
                return new int[] {world.amount(a[0], gifts), world.added[a[0]], world.worn[a[0]]}[a[1]];
            case "bell": {
                int flaws = 0;
                for (int g = 0; g < gifts.length; g++) if (gifts[g] < world.full(world.people.get(g))) flaws += 1 << g;
                int[] all = {world.weight(gifts), world.note(gifts), world.sweet(gifts), world.isTrue(gifts) ? 1 : 0, flaws};
                return in(a[0], 0, 4) ? all[a[0]] : BAD;
            }
            case "tap": return in(a[0], 0, 8) ? world.tapped(a[0]) : BAD;
            default: {
                int pictures = (images[0] != null ? 1 : 0) + (images[1] != null ? 1 : 0);
                int cells = sheets[0] == null ? NONE : java.lang.reflect.Array.getLength(sheets[0]);
                int given = 0, guilt = 0;
                for (int g = 0; g < gifts.length; g++) {
                    given += gifts[g];
                    guilt += world.people.get(g).guilt;
                }
                int[] all = {seen.size(), pictures, tape.length(), cells, given, guilt};
                return in(a[0], 0, 5) ? all[a[0]] : BAD;
            }
        }
    }

    private long change(String name, int[] a) {
        int was;
        switch (name) {
            case "alter": {
                if (noGiver(a[0]) || !in(a[1], 0, 5)) return BAD;
                if (!in(a[2], 0, a[1] == 1 || a[1] == 5 ? 9 : a[1] == 4 ? 1 : 3)) return BAD;
                Person p = world.people.get(a[0]);
                was = (int) whatThereIs("giver", a);
                if (a[1] == 0) p.kind = a[2];
                if (a[1] == 1) p.guilt = a[2];
                if (a[1] == 2) p.metal = a[2];
                if (a[1] == 3) p.deed = a[2];
                if (a[1] == 4) p.sorry = a[2];
                if (a[1] == 5) p.holds = a[2];
                return was;
            }
            case "add":
                if (!in(a[0], 0, 2) || !in(a[1], 0, 40)) return BAD;
                was = world.added[a[0]];
                world.added[a[0]] = a[1];
                return was;
            case "ask":
                if (!in(a[0], 0, 1) || !(a[0] == 0 ? in(a[1], 3, 12) : in(a[1], 0, 10))) return BAD;
                was = a[0] == 0 ? world.asked : world.least;
                if (a[0] == 0) world.asked = a[1];
                else world.least = a[1];
                return was;
            default:
                if (!in(a[0], 0, 99)) return BAD;
                if (world.struck + a[0] > 999) return FULL;
                for (int i = 0; i < a[0]; i++) world.strike();
                return world.weight(world.gifts());
        }
    }

    private long whatItShouldBe(String name, int[] a) {
        World w = world.copy();
        int n = w.people.size();
        int[] gifts = w.gifts();
        switch (name) {
            case "mine":
                if (noGiver(a[0])) return BAD;
                for (gifts[a[0]] = 0; gifts[a[0]] <= 40; gifts[a[0]]++) if (w.isTrue(gifts)) return gifts[a[0]];
                return NONE;
            case "least":
                if (!in(a[0], 0, 2)) return BAD;
                for (w.added[a[0]] = 0; w.added[a[0]] <= 40; w.added[a[0]]++) if (w.isTrue(gifts)) return w.added[a[0]];
                return NONE;
            case "casts": {
                if (!in(a[0], 0, 1)) return BAD;
                int done = 0, last = NONE;
                while (!w.isTrue(w.gifts())) {
                    last = NONE;
                    for (int h = 9; h > 0 && last == NONE; h--) {
                        for (int g = 0; g < n && last == NONE; g++) if (w.people.get(g).holds == h) last = g;
                    }
                    if (last == NONE) return NONE;
                    w.people.get(last).holds--;
                    done++;
                }
                return a[0] == 0 ? done : last;
            }
            case "spare": {
                if (!in(a[0], 0, 1)) return BAD;
                for (int size = n; size >= 0; size--) {
                    for (int set = 0; set < 1 << n; set++) {
                        if (Integer.bitCount(set) != size) continue;
                        int[] less = gifts.clone();
                        for (int g = 0; g < n; g++) if ((set & 1 << g) != 0) less[g] = 0;
                        if (w.isTrue(less)) return a[0] == 0 ? size : set;
                    }
                }
                return NONE;
            }
            case "without":
                if (noGiver(a[0])) return BAD;
                gifts[a[0]] = 0;
                return w.note(gifts);
            case "lasts":
                for (int i = 0; i <= 500; i++) {
                    if (!w.isTrue(w.gifts())) return i;
                    w.strike();
                }
                return NONE;
            case "swap":
                if (w.isTrue(gifts)) return STATE;
                for (int told = 1; told <= 23; told++) {
                    int x = told / 10, y = told % 10;
                    if (x >= y || y >= n) continue;
                    World v = world.copy();
                    v.people.get(x).metal = world.people.get(y).metal;
                    v.people.get(y).metal = world.people.get(x).metal;
                    if (v.isTrue(v.gifts())) return told;
                }
                return NONE;
            default: throw new IllegalStateException(name);
        }
    }

    private long liars(String name, int[] a) {
        if (!in(a[0], 0, 10) || !in(a[1], 0, 1)) return BAD;
        int n = world.people.size();
        long all = Math.round(Math.pow(10, n)), sum = 0;
        // every outcome of n ten-sided throws, the lowest v of which are lies
        for (int outcome = 0; outcome < all; outcome++) {
            int[] gifts = world.gifts();
            int rest = outcome;
            for (int g = 0; g < n; g++) {
                if (rest % 10 < a[0]) gifts[g] /= 2;
                rest /= 10;
            }
            sum += name.equals("mean") ? world.weight(gifts) : world.isTrue(gifts) ? 1 : 0;
        }
        java.math.BigInteger d = java.math.BigInteger.valueOf(sum).gcd(java.math.BigInteger.valueOf(all));
        return (a[1] == 0 ? sum : all) / d.longValue();
    }

    private long guesses(String name, int[] a) {
        if (name.equals("see")) {
            if (!in(a[0], 0, 8) || !in(a[1], 0, 9)) return BAD;
            if (seen.size() == 6) return FULL;
            seen.add(new int[] {a[0], a[1]});
            return seen.size();
        }
        if (name.equals("forget")) {
            int were = seen.size();
            if (!in(a[0], 0, were)) return BAD;
            while (seen.size() > a[0]) seen.remove(seen.size() - 1);
            return were;
        }
        int n = world.people.size();
        if (name.equals("range") && (noGiver(a[0]) || !in(a[1], 0, 1)) || !name.equals("range") && !in(a[0], 0, 1)) return BAD;
        List<Integer> fit = new ArrayList<>();
        int[][] left = new int[9][10];
        World w = world.copy();
        for (int number = 0; number < Math.round(Math.pow(10, n)); number++) {
            int rest = number;
            for (int g = n - 1; g >= 0; g--) {
                w.people.get(g).guilt = rest % 10;
                rest /= 10;
            }
            boolean fits = true;
            for (int[] one : seen) fits = fits && w.tapped(one[0]) == one[1];
            if (!fits) continue;
            fit.add(number);
            if (name.equals("next")) for (int i = 0; i < 9; i++) left[i][w.tapped(i)]++;
        }
        if (name.equals("fits")) return a[0] == 0 ? fit.size() : fit.isEmpty() ? NONE : fit.get(0);
        if (fit.isEmpty()) return NONE;
        if (name.equals("range")) {
            int by = (int) Math.round(Math.pow(10, n - 1 - a[0]));
            return a[1] == 0 ? fit.stream().mapToInt(f -> f / by % 10).min().getAsInt()
                : fit.stream().mapToInt(f -> f / by % 10).max().getAsInt();
        }
        int best = 0;
        int[] worst = new int[9];
        for (int i = 0; i < 9; i++) {
            worst[i] = java.util.Arrays.stream(left[i]).max().getAsInt();
            if (worst[i] < worst[best]) best = i;
        }
        if (worst[best] >= fit.size()) return NONE;
        return a[0] == 0 ? best : worst[best];
    }

    private long drift(int[] a) {
        if (!in(a[1], 1, 60) || !in(a[2], 0, 1)) return BAD;
        if (world.people.isEmpty()) return STATE;
        World w = world.copy();
        long seed = a[0] & 0xffffffffL, times = 0, notes = 0;
        for (int i = 0; i < a[1]; i++) {
            seed = (seed * 1103515245L + 12345) & 0xffffffffL;
            Person p = w.people.get((int) (seed / 65536 % 32768) % w.people.size());
            seed = (seed * 1103515245L + 12345) & 0xffffffffL;
            p.guilt = (int) (seed / 65536 % 32768 % 10);
            if (w.isTrue(w.gifts())) times++;
            if (w.note(w.gifts()) != NONE) notes += w.note(w.gifts());
        }
        return a[2] == 0 ? times : notes;
    }

    private long image(String name, int[] a) {
        if (!in(a[0], 0, 1)) return BAD;
        if (name.equals("keep")) {
            int was = images[a[0]] == null ? 0 : 1;
            images[a[0]] = world.copy();
            return was;
        }
        if (images[a[0]] == null) return STATE;
        world = images[a[0]].copy();
        return world.struck;
    }

    private static int cell(Object row, int lane, int i) {
        return lane == 0 ? ((byte[]) row)[i] : lane == 1 ? ((short[]) row)[i] : ((int[]) row)[i];
    }

    private static Object taken(Object row, int lane) {
        return lane == 0 ? (byte[]) row : lane == 1 ? (short[]) row : (int[]) row;
    }

    private long sheet(String name, int[] a) {
        if (name.equals("torn")) return torn;
        if (!in(a[0], 0, 3)) return BAD;
        if (name.equals("sheet")) {
            if (!in(a[1], 0, 2) || a[2] > 40) return BAD;
            try {
                sheets[a[0]] = a[1] == 0 ? new byte[a[2]] : a[1] == 1 ? new short[a[2]] : new int[a[2]];
                return 1;
            } catch (NegativeArraySizeException e) {
                return -14;
            }
        }
        if (name.equals("lay")) {
            try {
                if (sheets[a[0]] instanceof byte[] b) b[a[1]] = (byte) a[2];
                else if (sheets[a[0]] instanceof short[] s) s[a[1]] = (short) a[2];
                else ((int[]) sheets[a[0]])[a[1]] = a[2];
                return 1;
            } catch (NullPointerException e) {
                return -11;
            } catch (ArrayIndexOutOfBoundsException e) {
                return -12;
            }
        }
        if (!in(a[1], 0, 2) || !in(a[3], 0, 20)) return BAD;
        World w = world.copy();
        int done = 0, found = 0;
        try {
            for (; done < a[3]; done++) {
                Object row = taken(sheets[a[0]], a[1]);
                int g = cell(row, a[1], a[2] + 2 * done), guilt = cell(row, a[1], a[2] + 2 * done + 1);
                if (noGiver(g) || !in(guilt, 0, 9)) return -20 - done;
                w.people.get(g).guilt = guilt;
            }
        } catch (NullPointerException e) {
            found = 1;
        } catch (ArrayIndexOutOfBoundsException e) {
            found = 2;
        } catch (ClassCastException e) {
            found = 3;
        }
        world = w;
        torn = found;
        return done;
    }

    // ---- the same call on the object that is tried

    private static long tried(GuiltBell x, String name, int[] a) {
        switch (name) {
            case "feed": return x.feed(a[0]);
            case "end": return x.end(a[0]);
            case "text": return x.text();
            case "fault": return x.fault();
            case "rule": return x.rule(a[0]);
            case "giver": return x.giver(a[0], a[1]);
            case "metal": return x.metal(a[0], a[1]);
            case "bell": return x.bell(a[0]);
            case "tap": return x.tap(a[0]);
            case "alter": return x.alter(a[0], a[1], a[2]);
            case "add": return x.add(a[0], a[1]);
            case "ask": return x.ask(a[0], a[1]);
            case "ring": return x.ring(a[0]);
            case "mine": return x.mine(a[0]);
            case "least": return x.least(a[0]);
            case "casts": return x.casts(a[0]);
            case "spare": return x.spare(a[0]);
            case "without": return x.without(a[0]);
            case "lasts": return x.lasts();
            case "swap": return x.swap();
            case "mean": return x.mean(a[0], a[1]);
            case "luck": return x.luck(a[0], a[1]);
            case "see": return x.see(a[0], a[1]);
            case "forget": return x.forget(a[0]);
            case "fits": return x.fits(a[0]);
            case "range": return x.range(a[0], a[1]);
            case "next": return x.next(a[0]);
            case "drift": return x.drift(a[0], a[1], a[2]);
            case "keep": return x.keep(a[0]);
            case "back": return x.back(a[0]);
            case "sheet": return x.sheet(a[0], a[1], a[2]);
            case "lay": return x.lay(a[0], a[1], a[2]);
            case "read": return x.read(a[0], a[1], a[2], a[3]);
            case "torn": return x.torn();
            case "count": return x.count(a[0]);
            default: throw new IllegalStateException(name);
        }
    }

    // ---- what is called

    /** Each call with its arguments' highest useful values. */
    private static final String[] CALLED = {"feed 127", "end 20", "fault", "rule 5", "giver 3 7", "metal 3 2", "bell 4",
        "tap 8", "alter 3 5 9", "alter 3 5 9", "alter 3 1 9", "alter 3 4 1", "add 2 40", "add 2 9", "ask 1 12", "ask 1 3", "ring 99", "ring 12",
        "mine 3", "mine 3", "least 2", "least 2", "casts 1", "casts 1", "spare 1", "spare 1", "without 3", "lasts", "lasts",
        "swap", "swap", "mean 10 1", "luck 10 1", "see 8 9", "forget 6", "fits 1", "range 3 1", "next 1", "drift * 60 1",
        "keep 1", "back 1", "sheet 3 2 40", "sheet 1 1 8", "lay 3 39 *", "lay 1 7 9", "lay 1 7 3", "lay 1 7 3", "lay 1 7 3",
        "read 3 2 9 20", "read 1 1 4 4", "read 1 1 4 2", "torn", "count 5"};
    private static final String[] PIECES = {"plain", "mayor", "maid", "deaf", "sorry", "hold", "add", "ask", "tin", "copper",
        "silver", "iron", ";", "0", "1", "3", "4", "9", "10", "12", "40", "41", "100", " ", "A", "plains", "i", "?", "07"};

    private static int argument(Random r, String top) {
        if (top.equals("*")) return r.nextBoolean() ? r.nextInt() : r.nextInt(12);
        int high = Integer.parseInt(top);
        int roll = r.nextInt(60);
        if (roll == 0) return -1;
        if (roll == 1) return high + 1;
        if (roll == 2) return r.nextInt();
        if (roll == 3) return r.nextBoolean() ? Integer.MAX_VALUE : Integer.MIN_VALUE;
        return r.nextInt(high + 1);
    }

    private static String some(Random r, String... of) {
        return of[r.nextInt(of.length)];
    }

    private static String textOf(Random r) {
        StringBuilder text = new StringBuilder();
        int givers = r.nextInt(5);
        for (int g = 0; g < givers; g++) {
            text.append(some(r, "plain", "mayor", "maid", "deaf")).append(' ');
            text.append(some(r, "tin", "copper", "copper", "silver", "iron")).append(' ');
            text.append(r.nextInt(10)).append(' ').append(r.nextInt(r.nextBoolean() ? 4 : 2)).append(';');
        }
        for (int g = 0; g < givers; g++) {
            if (r.nextInt(2) == 0) text.append("sorry ").append(g).append(';');
            if (r.nextInt(3) == 0) text.append("hold ").append(g).append(' ').append(r.nextInt(10)).append(';');
        }
        if (r.nextInt(3) == 0) text.append("add ").append(some(r, "tin", "copper", "silver")).append(' ').append(r.nextInt(41)).append(';');
        if (r.nextInt(2) == 0) text.append("ask ").append(3 + r.nextInt(10)).append(' ').append(r.nextInt(5)).append(';');
        if (r.nextInt(3) == 0) {
            int at = r.nextInt(text.length() + 1);
            int to = Math.min(text.length(), at + r.nextInt(4));
            text.replace(at, to, some(r, PIECES));
        }
        if (r.nextInt(8) == 0) {
            text.setLength(0);
            for (int i = r.nextInt(12); i > 0; i--) text.append(some(r, PIECES)).append(r.nextInt(4) == 0 ? "" : " ");
        }
        return text.toString();
    }

    private static int wrong = 0;

    private static void both(int run, GuiltBell x, GuiltBellModel model, String name, int... a) {
        long got = tried(x, name, a), want = model.call(name, a);
        model.calls++;
        if (got == want) return;
        if (wrong++ < 20) {
            System.out.println("run " + run + ": " + name + java.util.Arrays.toString(a) + " answered " + got + ", due is " + want);
        }
    }

    private static void tell(int run, GuiltBell x, GuiltBellModel model, String text) {
        for (int i = 0; i < text.length(); i++) both(run, x, model, "feed", text.charAt(i));
        both(run, x, model, "text");
        both(run, x, model, "fault");
    }

    private static void oneRun(int run, Random r) {
        GuiltBell x = new GuiltBell();
        GuiltBellModel model = new GuiltBellModel();
        tell(run, x, model, textOf(r));
        for (int i = 0; i < CALLS && model.calls + 1 + CALLS_OF_TEXT <= MOST_CALLS; i++) {
            String[] call = some(r, CALLED).split(" ");
            boolean dear = call[0].matches("fits|range|next|mean|luck");
            if (dear && r.nextInt(4) != 0) continue;
            int[] a = new int[call.length - 1];
            for (int k = 0; k < a.length; k++) a[k] = argument(r, call[k + 1]);
            if (call[0].equals("see") && r.nextInt(3) != 0 && in(a[0], 0, 8)) a[1] = model.world.tapped(a[0]);
            both(run, x, model, call[0], a);
            if (r.nextInt(150) == 0) tell(run, x, model, textOf(r));
        }
    }

    private static void manyTexts() {
        Random r = new Random(77);
        GuiltBell x = new GuiltBell();
        GuiltBellModel model = new GuiltBellModel();
        for (int run = 0; run < 20000; run++) {
            if (model.calls + CALLS_OF_TEXT + 38 > MOST_CALLS) {
                x = new GuiltBell();
                model = new GuiltBellModel();
            }
            tell(-run, x, model, textOf(r));
            for (int what = 0; what < 6; what++) both(-run, x, model, "rule", what);
            for (int g = 0; g < 4; g++) for (int what = 0; what < 8; what++) both(-run, x, model, "giver", g, what);
        }
    }

    public static void main(String[] args) {
        int runs = args.length > 0 ? Integer.parseInt(args[0]) : RUNS;
        for (int run = 0; run < runs; run++) oneRun(run, new Random(run * 31L + 7));
        manyTexts();
        System.out.println(wrong == 0 ? "all answers are as due" : wrong + " answers are not as due");
        if (wrong != 0) System.exit(1);
    }
}
