import java.math.BigInteger;
import java.util.ArrayList;
import java.util.Arrays;
import java.util.HashSet;
import java.util.List;
import java.util.Random;
import java.util.Set;
import java.util.regex.Matcher;
import java.util.regex.Pattern;

// Random runs of calls, each answer held against a slow second telling of the document, written apart from the class.
public final class ModelTest {
    private static final int BEYOND = 0;
    private static final int FULL = 1;
    private static final int KIND = 2;
    private static final int NONE = 3;
    private static final int MISSING = 5;
    private static final int SIZE = 6;

    /** A finding on its way out of the model. */
    private static final class Found extends RuntimeException {
        private static final long serialVersionUID = 1;
        final int which;

        Found(int which) {
            super(null, null, false, false);
            this.which = which;
        }
    }

    /** A fault of a text, at its place. */
    private static final class Fault extends RuntimeException {
        private static final long serialVersionUID = 1;
        final int place;

        Fault(int place) {
            super(null, null, false, false);
            this.place = place;
        }
    }

    private static final class Hill {
        int kind;
        int valley;
        int step = 1;
        int turn;
        int height = 50;
        int bowed;

        Hill(int kind, int valley) {
            this.kind = kind;
            this.valley = valley;
        }

        Hill(Hill h) {
            this(h.kind, h.valley);
            step = h.step;
            turn = h.turn;
            height = h.height;
            bowed = h.bowed;
        }

        int faces() {
            int further = turn == 0 ? 0 : turn == 1 ? 1 : turn == 2 ? 6 : 11;
            return Math.floorMod(valley + further, 12);
        }

        boolean meets(Hill o) {
            return o != this && faces() == o.valley && o.faces() == valley;
        }
    }

    private static final class World {
        int rain = 2;
        int age;
        int z = 1;
        List<Hill> hills = new ArrayList<>();
        int[] spots = new int[10];

        World() {
            Arrays.fill(spots, -1);
        }

        World(World w) {
            rain = w.rain;
            age = w.age;
            z = w.z;
            spots = w.spots.clone();
            for (Hill h : w.hills) {
                hills.add(new Hill(h));
            }
        }

        boolean meetsAny(Hill h) {
            return hills.stream().anyMatch(h::meets);
        }

        int moves(Hill h, int as) {
            switch (as) {
                case 0: return h.step;
                case 1: return moves(h, 0) * 2;
                case 6: return moves(h, 1) + (h.height > 50 ? 1 : 0);
                case 2: return meetsAny(h) ? 0 : moves(h, 0);
                case 3: return moves(h, 2) + (int) hills.stream().filter(o -> o != h && o.valley == h.valley).count();
                case 4: return 0 - moves(h, 3);
                default: return 0;
            }
        }

        int turns(Hill h, int as) {
            switch (as) {
                case 0: return 1;
                case 1: return 0;
                case 6: return turns(h, 1) + 2;
                case 2: return turns(h, 0);
                case 3: return turns(h, 2) + (h.height > 50 ? 1 : 0);
                case 4: return 3 * turns(h, 3);
                default: return 0;
            }
        }

        int sinks(Hill h, int as) {
            switch (as) {
                case 0: return 1;
                case 1: return rain;
                case 6: return sinks(h, 1) + 1;
                case 2: return sinks(h, 0) + rain;
                case 3: return sinks(h, 2) / 2;
                case 4: return sinks(h, 3);
                default: return 0;
            }
        }

        World next() {
            World w = new World(this);
            for (int i = 0; i < hills.size(); i++) {
                Hill was = hills.get(i);
                Hill is = w.hills.get(i);
                is.valley = Math.floorMod(was.valley + moves(was, was.kind), 12);
                is.turn = Math.floorMod(was.turn + turns(was, was.kind), 4);
                if (meetsAny(was)) {
                    is.height = Math.max(0, was.height - sinks(was, was.kind));
                    is.bowed = Math.min(9999, was.bowed + 1);
                } else {
                    is.height = Math.min(99, was.height + 1);
                }
            }
            w.age = Math.min(99999, age + 1);
            return w;
        }

        World behind(int n) {
            World w = this;
            for (int i = 0; i < n; i++) {
                w = w.next();
            }
            return w;
        }

        int draw() {
            z = z * 1103515245 + 12345;
            return z >>> 8;
        }

        boolean isOpen(int from, int to, int way, int climb) {
            for (int v = Math.floorMod(from + way, 12); from != to && v != to; v = Math.floorMod(v + way, 12)) {
                for (Hill h : hills) {
                    if (h.valley == v && h.height > climb) {
                        return false;
                    }
                }
            }
            return true;
        }

        boolean isAnyOpen(int from, int to, int climb) {
            return isOpen(from, to, 1, climb) || isOpen(from, to, -1, climb);
        }
    }

    private static final class Model {
        World world = new World();
        World kept;
        StringBuilder tape = new StringBuilder();
        int[][] sheets = new int[4][];
        int[] bits = new int[4];
        int[] found = new int[7];

        static void need(boolean good, int which) {
            if (!good) {
                throw new Found(which);
            }
        }

        static void within(int v, int least, int most) {
            need(least <= v && v <= most, BEYOND);
        }

        Hill get(int h) {
            within(h, 0, world.hills.size() - 1);
            return world.hills.get(h);
        }

        static void put(Hill h, int what, int v) {
            switch (what) {
                case 0: within(v, 0, 6); h.kind = v; break;
                case 1: within(v, 0, 11); h.valley = v; break;
                case 2: within(v, -5, 5); h.step = v; break;
                case 3: within(v, 0, 3); h.turn = v; break;
                case 4: within(v, 0, 99); h.height = v; break;
                case 5: within(v, 0, 9999); h.bowed = v; break;
                default: throw new Found(BEYOND);
            }
        }

        static int read(World w, Hill h, int what) {
            switch (what) {
                case 0: return h.kind;
                case 1: return h.valley;
                case 2: return h.step;
                case 3: return h.turn;
                case 4: return h.height;
                case 5: return h.bowed;
                case 6: return h.faces();
                case 7: return w.moves(h, h.kind);
                case 8: return w.turns(h, h.kind);
                case 9: return w.sinks(h, h.kind);
                case 10: return setOf(w, h::meets);
                default: throw new Found(BEYOND);
            }
        }

        static int setOf(World w, java.util.function.Predicate<Hill> test) {
            int set = 0;
            for (int i = 0; i < w.hills.size(); i++) {
                set |= test.test(w.hills.get(i)) ? 1 << i : 0;
            }
            return set;
        }

        int heights() {
            return world.hills.stream().mapToInt(h -> h.height).sum();
        }

        int bowed() {
            return world.hills.stream().mapToInt(h -> h.bowed).sum();
        }

        long answer(String name, int[] a) {
            try {
                return act(name, a);
            } catch (Found f) {
                found[f.which]++;
                return -1000001L - f.which;
            }
        }

        private long act(String name, int[] a) {
            switch (name) {
                case "rain": {
                    within(a[0], 0, 9);
                    int was = world.rain;
                    world.rain = a[0];
                    return was;
                }
                case "hill":
                    within(a[0], 0, 6);
                    within(a[1], 0, 11);
                    need(world.hills.size() < 8, FULL);
                    world.hills.add(new Hill(a[0], a[1]));
                    return world.hills.size() - 1;
                case "of":
                    return read(world, get(a[0]), a[1]);
                case "change": {
                    Hill h = get(a[0]);
                    within(a[1], 0, 5);
                    int was = read(world, h, a[1]);
                    put(h, a[1], a[2]);
                    return was;
                }
                case "valley": {
                    within(a[0], 0, 11);
                    within(a[1], 0, 2);
                    if (a[1] == 0) {
                        return setOf(world, h -> h.valley == a[0]);
                    }
                    if (a[1] == 1) {
                        return setOf(world, h -> h.faces() == a[0]);
                    }
                    return world.hills.stream().filter(h -> h.valley == a[0]).mapToInt(h -> h.height).max().orElse(-1);
                }
                case "go":
                    within(a[0], 1, 60);
                    world = world.behind(a[0]);
                    return Integer.bitCount(setOf(world, world::meetsAny));
                case "now":
                    return now(a[0]);
                case "rains":
                    within(a[0], 1, 20);
                    for (int i = 0; i < a[0]; i++) {
                        world.rain = world.draw() % 10;
                        int h = world.draw() % 8;
                        if (h < world.hills.size()) {
                            world.hills.get(h).turn = (world.hills.get(h).turn + 1) % 4;
                        }
                        world = world.next();
                    }
                    return heights();
                case "odds":
                    return odds(a[0], a[1]);
                case "seed": {
                    int was = world.z;
                    world.z = a[0];
                    return was;
                }
                default:
                    return actAhead(name, a);
            }
        }

        private long now(int what) {
            within(what, 0, 5);
            int set = 0;
            switch (what) {
                case 0: return world.age;
                case 1: return heights();
                case 2: return setOf(world, world::meetsAny);
                case 5: return bowed();
                default:
                    for (Hill h : world.hills) {
                        set |= 1 << (what == 3 ? h.valley : h.faces());
                    }
                    return set;
            }
        }

        private long odds(int n, int what) {
            within(n, 0, 20);
            within(what, 0, 1);
            int alone = world.hills.size() - Integer.bitCount(setOf(world, world::meetsAny));
            BigInteger above = BigInteger.valueOf(alone).pow(n);
            BigInteger below = BigInteger.valueOf(8).pow(n);
            BigInteger common = above.gcd(below);
            return (what == 0 ? above : below).divide(common).longValueExact();
        }

        private long actAhead(String name, int[] a) {
            switch (name) {
                case "ahead": {
                    get(a[0]);
                    need(Set.of(1, 3, 4, 5, 6).contains(a[1]), BEYOND);
                    within(a[2], 0, 100);
                    World w = world.behind(a[2]);
                    return read(w, w.hills.get(a[0]), a[1]);
                }
                case "when": {
                    get(a[0]);
                    within(a[1], 0, 11);
                    World w = world;
                    for (int k = 0; k <= 200; k++, w = w.next()) {
                        if (w.hills.get(a[0]).faces() == a[1]) {
                            return k;
                        }
                    }
                    throw new Found(NONE);
                }
                case "meet": {
                    pair(a);
                    int k = firstMeeting(world, a[0], a[1]);
                    need(k <= 200, NONE);
                    return k;
                }
                case "round": {
                    World w = world;
                    for (int k = 1; k <= 300; k++) {
                        w = w.next();
                        boolean same = true;
                        for (int i = 0; i < w.hills.size(); i++) {
                            same &= w.hills.get(i).valley == world.hills.get(i).valley;
                            same &= w.hills.get(i).turn == world.hills.get(i).turn;
                        }
                        if (same) {
                            return k;
                        }
                    }
                    throw new Found(NONE);
                }
                case "skylines": {
                    within(a[0], 0, 11);
                    within(a[1], 0, 200);
                    int ages = 0;
                    World w = world;
                    for (int k = 0; k < a[1]; k++, w = w.next()) {
                        ages += w.hills.stream().anyMatch(h -> h.faces() == a[0]) ? 1 : 0;
                    }
                    return ages;
                }
                case "wallflowers": {
                    within(a[0], 0, 200);
                    Set<Integer> met = new HashSet<>();
                    World w = world;
                    for (int k = 0; k < a[0]; k++, w = w.next()) {
                        for (int i = 0; i < w.hills.size(); i++) {
                            if (w.meetsAny(w.hills.get(i))) {
                                met.add(i);
                            }
                        }
                    }
                    return setOf(world, h -> !met.contains(world.hills.indexOf(h)));
                }
                default:
                    return actDance(name, a);
            }
        }

        private void pair(int[] a) {
            get(a[0]);
            get(a[1]);
            need(a[0] != a[1], BEYOND);
        }

        private static int firstMeeting(World start, int a, int b) {
            World w = start;
            for (int k = 0; k <= 200; k++, w = w.next()) {
                if (w.hills.get(a).meets(w.hills.get(b))) {
                    return k;
                }
            }
            return 201;
        }

        private long actDance(String name, int[] a) {
            switch (name) {
                case "stand":
                    return soonest(a, 1, 0, 11);
                case "stepFor":
                    return soonest(a, 2, -5, 5);
                case "turnFor":
                    return soonest(a, 3, 0, 3);
                case "kindFor": {
                    get(a[0]);
                    within(a[1], 0, 60);
                    int[] bows = new int[7];
                    for (int kind = 0; kind < 7; kind++) {
                        bows[kind] = with(a[0], 0, kind).behind(a[1]).hills.get(a[0]).bowed;
                    }
                    int most = Arrays.stream(bows).max().getAsInt();
                    return java.util.stream.IntStream.range(0, 7).filter(k -> bows[k] == most).findFirst().getAsInt();
                }
                case "rainFor": {
                    get(a[0]);
                    within(a[1], 0, 99);
                    within(a[2], 0, 60);
                    for (int r = 0; r <= 9; r++) {
                        World w = new World(world);
                        w.rain = r;
                        if (w.behind(a[2]).hills.get(a[0]).height <= a[1]) {
                            return r;
                        }
                    }
                    throw new Found(NONE);
                }
                case "road":
                    within(a[0], 0, 11);
                    within(a[1], 0, 11);
                    within(a[2], 0, 99);
                    for (int d = 0; d < 12; d++) {
                        if (Math.floorMod(a[0] + d, 12) == a[1] && world.isOpen(a[0], a[1], 1, a[2])
                                || Math.floorMod(a[0] - d, 12) == a[1] && world.isOpen(a[0], a[1], -1, a[2])) {
                            return d;
                        }
                    }
                    throw new Found(NONE);
                case "climb":
                    within(a[0], 0, 11);
                    within(a[1], 0, 11);
                    for (int c = 0; ; c++) {
                        if (world.isAnyOpen(a[0], a[1], c)) {
                            return c;
                        }
                    }
                case "open":
                    within(a[0], 0, 11);
                    within(a[1], 0, 11);
                    within(a[2], 0, 99);
                    within(a[3], 0, 100);
                    return openAges(a[0], a[1], a[2], a[3]);
                case "lay": {
                    within(a[0], 0, 11);
                    within(a[1], 0, 99);
                    within(a[2], 0, 60);
                    int best = -1;
                    for (int to = 11; to >= 0; to--) {
                        if (to != a[0] && (best < 0
                                || openAges(a[0], to, a[1], a[2]) >= openAges(a[0], best, a[1], a[2]))) {
                            best = to;
                        }
                    }
                    return best;
                }
                default:
                    return actSheets(name, a);
            }
        }

        private int openAges(int from, int to, int climb, int n) {
            int ages = 0;
            World w = world;
            for (int k = 0; k < n; k++, w = w.next()) {
                ages += w.isAnyOpen(from, to, climb) ? 1 : 0;
            }
            return ages;
        }

        private World with(int hill, int what, int v) {
            World w = new World(world);
            put(w.hills.get(hill), what, v);
            return w;
        }

        private long soonest(int[] a, int what, int least, int most) {
            pair(a);
            int[] ages = new int[most - least + 1];
            for (int v = least; v <= most; v++) {
                ages[v - least] = firstMeeting(with(a[0], what, v), a[0], a[1]);
            }
            int fewest = Arrays.stream(ages).min().getAsInt();
            need(fewest <= 200, NONE);
            for (int i = 0; ; i++) {
                if (ages[i] == fewest) {
                    return least + i;
                }
            }
        }

        private void sheetThere(int s) {
            within(s, 0, 3);
            need(sheets[s] != null, MISSING);
        }

        private boolean faces(World start, int s, int hill) {
            World w = start;
            for (int told : sheets[s]) {
                if (told != -1 && w.hills.get(hill).faces() != told) {
                    return false;
                }
                w = w.next();
            }
            return true;
        }

        private long actSheets(String name, int[] a) {
            switch (name) {
                case "fits":
                case "step": {
                    sheetThere(a[0]);
                    get(a[1]);
                    int[] good = java.util.stream.IntStream.rangeClosed(-5, 5)
                        .filter(v -> faces(with(a[1], 2, v), a[0], a[1])).toArray();
                    need(name.equals("fits") || good.length > 0, NONE);
                    return name.equals("fits") ? good.length : good[0];
                }
                case "kinds":
                    sheetThere(a[0]);
                    get(a[1]);
                    return java.util.stream.IntStream.range(0, 7)
                        .filter(v -> faces(with(a[1], 0, v), a[0], a[1])).map(v -> 1 << v).sum();
                case "sheet":
                    within(a[0], 0, 3);
                    need(Set.of(0, 8, 16, 32).contains(a[1]), BEYOND);
                    need(a[2] >= 0, SIZE);
                    within(a[2], 0, 40);
                    bits[a[0]] = a[1];
                    sheets[a[0]] = a[1] == 0 ? null : new int[a[2]];
                    return a[1] == 0 ? 0 : a[2];
                case "write":
                    sheetThere(a[0]);
                    within(a[1], 0, sheets[a[0]].length - 1);
                    sheets[a[0]][a[1]] = a[2] << (32 - bits[a[0]]) >> (32 - bits[a[0]]);
                    return 1;
                case "copy": {
                    within(a[0], 0, 3);
                    within(a[2], 0, 3);
                    need(sheets[a[0]] != null && sheets[a[2]] != null, MISSING);
                    need(bits[a[0]] == bits[a[2]], KIND);
                    need(a[1] >= 0 && a[3] >= 0 && a[4] >= 0, BEYOND);
                    need((long) a[1] + a[4] <= sheets[a[0]].length, BEYOND);
                    need((long) a[3] + a[4] <= sheets[a[2]].length, BEYOND);
                    int[] were = sheets[a[0]].clone();
                    for (int i = 0; i < a[4]; i++) {
                        sheets[a[2]][a[3] + i] = were[a[1] + i];
                    }
                    return a[4];
                }
                case "load": {
                    sheetThere(a[0]);
                    int came = 0;
                    for (int v : sheets[a[0]]) {
                        if (v < 0 || v > 99 || came >= world.hills.size()) {
                            break;
                        }
                        world.hills.get(came++).height = v;
                    }
                    return came;
                }
                case "judge":
                    sheetThere(a[0]);
                    for (int i = 0; i < sheets[a[0]].length; i++) {
                        if (i >= world.hills.size() || world.hills.get(i).faces() != sheets[a[0]][i]) {
                            return 1 + i;
                        }
                    }
                    return 0;
                default:
                    return actRest(name, a);
            }
        }

        private long actRest(String name, int[] a) {
            switch (name) {
                case "hold":
                    within(a[0], 0, 9);
                    within(a[1], -1, world.hills.size() - 1);
                    world.spots[a[0]] = a[1];
                    return 1;
                case "as": {
                    within(a[0], 0, 9);
                    within(a[1], 0, 6);
                    int h = world.spots[a[0]];
                    need(h >= 0, MISSING);
                    String[] under = {"0", "01", "02", "023", "0234", "05", "016"};
                    need(under[world.hills.get(h).kind].indexOf('0' + a[1]) >= 0, KIND);
                    return h;
                }
                case "image":
                    kept = new World(world);
                    return 1;
                case "undo":
                    need(kept != null, NONE);
                    world = new World(kept);
                    return world.age;
                case "tear": {
                    int had = kept == null ? 0 : 1;
                    kept = null;
                    return had;
                }
                case "count":
                    within(a[0], 0, 7);
                    return new long[] {world.age, world.hills.size(), Integer.bitCount(setOf(world, world::meetsAny)),
                        heights(), bowed(), tape.length(), world.z,
                        Arrays.stream(world.spots).filter(h -> h >= 0).count()}[a[0]];
                case "status":
                    within(a[0], -1, 6);
                    return a[0] < 0 ? Arrays.stream(found).sum() : found[a[0]];
                case "feed":
                    within(a[1], 1, 4);
                    need(tape.length() + a[1] <= 120, FULL);
                    for (int i = a[1] - 1; i >= 0; i--) {
                        tape.append((char) (a[0] >>> 8 * i & 255));
                    }
                    return tape.length();
                case "wipe": {
                    int had = tape.length();
                    tape.setLength(0);
                    return had;
                }
                case "text": {
                    String text = tape.toString();
                    tape.setLength(0);
                    World w = new World(world);
                    try {
                        int items = new Text(text, w).read();
                        world = w;
                        return items;
                    } catch (Fault f) {
                        return -1 - f.place;
                    }
                }
                default:
                    throw new IllegalStateException(name);
            }
        }
    }

    /** Reads a text by patterns. */
    private static final class Text {
        private static final Pattern TOKEN = Pattern.compile(" *([a-z]+|[0-9]+|[;-]|[^ ]|$)", Pattern.DOTALL);
        private static final List<String> KINDS =
            List.of("hill", "ridge", "partner", "twin", "feud", "stone", "scarp");
        final List<String> tokens = new ArrayList<>();
        final List<Integer> places = new ArrayList<>();
        final World world;
        int at;

        Text(String text, World world) {
            this.world = world;
            Matcher m = TOKEN.matcher(text);
            int from = 0;
            do {
                if (!m.find(from)) {
                    throw new IllegalStateException();
                }
                tokens.add(m.group(1));
                places.add(m.start(1));
                from = m.end();
            } while (!m.group(1).isEmpty());
        }

        Fault fault() {
            return new Fault(places.get(at));
        }

        boolean take(String token) {
            if (!tokens.get(at).equals(token)) {
                return false;
            }
            at++;
            return true;
        }

        int number(int most) {
            String t = tokens.get(at);
            if (!t.matches("[0-9]+") || new BigInteger(t).compareTo(BigInteger.valueOf(most)) > 0) {
                throw fault();
            }
            at++;
            return Integer.parseInt(t);
        }

        int read() {
            int items = 0;
            do {
                item();
                items++;
            } while (take(";"));
            if (!tokens.get(at).isEmpty()) {
                throw fault();
            }
            return items;
        }

        void item() {
            if (take("rain")) {
                world.rain = number(9);
                return;
            }
            int kind = KINDS.indexOf(tokens.get(at));
            if (kind < 0 || world.hills.size() >= 8) {
                throw fault();
            }
            at++;
            Hill h = new Hill(kind, 0);
            world.hills.add(h);
            h.valley = take("at") ? number(11) : 0;
            if (take("step")) {
                h.step = take("-") ? -number(5) : number(5);
            }
            h.turn = take("turn") ? number(3) : 0;
            h.height = take("high") ? number(99) : 50;
        }
    }

    private static final String[] NAMES = {"rain", "hill", "of", "change", "valley", "go", "now", "ahead", "when",
        "meet", "round", "skylines", "wallflowers", "stand", "stepFor", "turnFor", "kindFor", "rainFor", "road",
        "climb", "open", "lay", "fits", "step", "kinds", "rains", "odds", "seed", "feed", "wipe", "text", "hold", "as",
        "sheet", "write", "copy", "load", "judge", "image", "undo", "tear", "count", "status"};

    /** For each parameter of each call, what it mostly lies within. */
    private static int[][] rangesOf(String name) {
        int[] hill = {0, 4};
        int[] valley = {0, 11};
        switch (name) {
            case "rain": return new int[][] {{0, 9}};
            case "hill": return new int[][] {{0, 6}, valley};
            case "of": return new int[][] {hill, {0, 10}};
            case "change": return new int[][] {hill, {0, 5}, {-5, 11}};
            case "valley": return new int[][] {valley, {0, 2}};
            case "go": return new int[][] {{1, 60}};
            case "now": return new int[][] {{0, 5}};
            case "ahead": return new int[][] {hill, {1, 6}, {0, 100}};
            case "when": return new int[][] {hill, valley};
            case "meet": case "stand": case "stepFor": case "turnFor": return new int[][] {hill, hill};
            case "skylines": return new int[][] {valley, {0, 200}};
            case "wallflowers": return new int[][] {{0, 200}};
            case "kindFor": return new int[][] {hill, {0, 60}};
            case "rainFor": return new int[][] {hill, {0, 99}, {0, 60}};
            case "road": return new int[][] {valley, valley, {0, 99}};
            case "climb": return new int[][] {valley, valley};
            case "open": return new int[][] {valley, valley, {0, 99}, {0, 100}};
            case "lay": return new int[][] {valley, {0, 99}, {0, 60}};
            case "fits": case "step": case "kinds": return new int[][] {{0, 3}, hill};
            case "rains": return new int[][] {{1, 20}};
            case "odds": return new int[][] {{0, 20}, {0, 1}};
            case "seed": return new int[][] {{-5, 5}};
            case "feed": return new int[][] {{0, 255}, {1, 4}};
            case "hold": return new int[][] {{0, 9}, {-1, 4}};
            case "as": return new int[][] {{0, 9}, {0, 6}};
            case "sheet": return new int[][] {{0, 3}, {0, 32}, {0, 40}};
            case "write": return new int[][] {{0, 3}, {0, 8}, {-1, 11}};
            case "copy": return new int[][] {{0, 3}, {0, 4}, {0, 3}, {0, 4}, {0, 6}};
            case "load": case "judge": return new int[][] {{0, 3}};
            case "count": return new int[][] {{0, 7}};
            case "status": return new int[][] {{-1, 6}};
            default: return new int[0][];
        }
    }

    private final Random random;
    private HillDance x;
    private Model model;
    private final List<String> calls = new ArrayList<>();
    private boolean isWrong;

    private ModelTest(long seed) {
        random = new Random(seed);
    }

    private int argument(int[] range) {
        switch (random.nextInt(60)) {
            case 0: return range[0] - 1;
            case 1: return range[1] + 1;
            case 2: return random.nextInt();
            case 3: return random.nextBoolean() ? Integer.MIN_VALUE : Integer.MAX_VALUE;
            case 4: return -1;
            case 5: return random.nextInt(100);
            case 6: return range[0];
            case 7: return range[1];
            default: return range[0] + random.nextInt(range[1] - range[0] + 1);
        }
    }

    private void call(String name, int... args) {
        if (isWrong) {
            return;
        }
        calls.add(name + Arrays.toString(args));
        long want = model.answer(name, args);
        long got = Checks.call(x, name, args);
        if (got != want) {
            isWrong = true;
            System.out.println(String.join(" ", calls) + " answered " + got + ", due is " + want);
        }
    }

    private void callRandomly() {
        String name = NAMES[random.nextInt(NAMES.length)];
        switch (name) {
            case "text":
                if (random.nextInt(4) > 0) {
                    feedText();
                }
                break;
            case "fits": case "step": case "kinds": case "judge":
                if (random.nextInt(3) > 0) {
                    tellWhatWillBe();
                }
                break;
            case "tear": case "undo":
                if (random.nextInt(3) > 0) {
                    return;
                }
                break;
            default:
                break;
        }
        int[][] ranges = rangesOf(name);
        int[] args = new int[ranges.length];
        for (int i = 0; i < args.length; i++) {
            args[i] = argument(ranges[i]);
        }
        if (name.equals("sheet") && random.nextInt(8) > 0) {
            args[1] = new int[] {0, 8, 16, 32}[random.nextInt(4)];
        }
        if (name.equals("change") && args[1] >= 4) {
            args[2] = random.nextInt(110);
        }
        call(name, args);
    }

    private void feedText() {
        String[] words = {"hill", "ridge", "partner", "twin", "feud", "stone", "scarp"};
        StringBuilder text = new StringBuilder();
        int items = 1 + random.nextInt(3);
        for (int i = 0; i < items; i++) {
            text.append(i > 0 ? ";" : "");
            if (random.nextInt(5) == 0) {
                text.append("rain ").append(random.nextInt(11));
                continue;
            }
            text.append(words[random.nextInt(7)]);
            text.append(random.nextBoolean() ? " at " + random.nextInt(13) : "");
            text.append(random.nextBoolean() ? " step" + (random.nextBoolean() ? "-" : "") + random.nextInt(7) : "");
            text.append(random.nextBoolean() ? "turn" + random.nextInt(5) : "");
            text.append(random.nextBoolean() ? " high 0" + random.nextInt(102) : " ");
        }
        int spoilt = random.nextInt(6);
        if (spoilt == 0) {
            text.setCharAt(random.nextInt(text.length()), (char) random.nextInt(256));
        } else if (spoilt == 1) {
            text.deleteCharAt(random.nextInt(text.length()));
        } else if (spoilt == 2) {
            text.insert(random.nextInt(text.length()), " ;-0ahilltwin".charAt(random.nextInt(13)));
        } else if (spoilt == 3) {
            text.setLength(random.nextInt(text.length()));
        }
        call("wipe");
        for (int i = 0; i < text.length(); ) {
            int n = Math.min(1 + random.nextInt(4), text.length() - i);
            int bytes = random.nextInt();
            for (int k = 0; k < n; k++, i++) {
                bytes = bytes << 8 | text.charAt(i);
            }
            call("feed", bytes, n);
        }
    }

    /** Writes a sheet that is, but for gaps, what some hill will face, so that something fits. */
    private void tellWhatWillBe() {
        int hills = model.world.hills.size();
        if (hills == 0) {
            return;
        }
        int s = random.nextInt(4);
        int n = random.nextInt(5);
        int hill = random.nextInt(hills);
        boolean isJudged = random.nextInt(4) == 0;
        call("sheet", s, new int[] {8, 16, 32}[random.nextInt(3)], n);
        for (int i = 0; i < n; i++) {
            int v = isJudged ? model.world.hills.get(i % hills).faces()
                : model.world.behind(i).hills.get(hill).faces();
            call("write", s, i, random.nextInt(12) == 0 ? random.nextInt(14) : random.nextInt(3) == 0 ? -1 : v);
        }
        call("fits", s, hill);
        call("step", s, hill);
        call("kinds", s, hill);
        call("judge", s);
    }

    private boolean runOne() {
        x = new HillDance();
        model = new Model();
        calls.clear();
        int few = random.nextInt(6);
        for (int i = 0; i < few; i++) {
            call("hill", random.nextInt(7), random.nextInt(12));
            call("change", i, 2, random.nextInt(11) - 5);
            call("change", i, 3, random.nextInt(4));
        }
        int bound = 60 + random.nextInt(350);
        while (calls.size() < bound && !isWrong) {
            callRandomly();
        }
        return !isWrong;
    }

    public static void main(String[] args) {
        int runs = args.length > 0 ? Integer.parseInt(args[0]) : 150;
        long seed = args.length > 1 ? Long.parseLong(args[1]) : 1;
        int wrong = 0;
        for (int run = 0; run < runs && wrong < 5; run++) {
            wrong += new ModelTest(seed + run).runOne() ? 0 : 1;
        }
        System.out.println(wrong == 0 ? "all answers are as due" : wrong + " runs went wrong");
        if (wrong != 0) {
            System.exit(1);
        }
    }
}
