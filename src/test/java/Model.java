import java.util.ArrayDeque;
import java.util.ArrayList;
import java.util.Arrays;
import java.util.HashSet;
import java.util.List;
import java.util.Set;
import java.util.function.Consumer;

/**
 * What ../shared/DOC.md says, told a second time and another way than in VineLaws (values that are copied,
 * exceptions for refusals, text read by a list of tokens): the random runs hold one against the other.
 */
final class Model {
    static final int NONE = -1000000, BAD = -1000001, STATE = -1000002, FULL = -1000003;
    private static final int NULL = -1000011, PLACE = -1000012, KIND = -1000013, SIZE = -1000014, STORE = -1000015;

    private static final class Refused extends RuntimeException {
        private static final long serialVersionUID = 1;
        final int answer;

        Refused(int answer) {
            super(null, null, false, false);
            this.answer = answer;
        }
    }

    private static final class Faulty extends Exception {
        private static final long serialVersionUID = 1;
        final int place;
        final int number;

        Faulty(int place, int number) {
            this.place = place;
            this.number = number;
        }
    }

    /** Columns of a leaf: sort letter, size, height, taste, left. Columns of a goat: hunger, reach, away. */
    private static final class World {
        int grows, saltiness, hour;
        List<int[]> leaves = new ArrayList<>();
        List<int[]> goats = new ArrayList<>();

        World twin() {
            World w = new World();
            w.grows = grows;
            w.saltiness = saltiness;
            w.hour = hour;
            leaves.forEach(l -> w.leaves.add(l.clone()));
            goats.forEach(g -> w.goats.add(g.clone()));
            return w;
        }

        Integer liked(int l) {
            int[] leaf = leaves.get(l);
            if (leaf[4] == 0) {
                return null;
            }
            int by = switch ((char) leaf[0]) {
                case 's', 'h' -> leaf[3];
                case 'a' -> leaf[3] + saltiness;
                case 'b' -> leaf[3] - 3;
                case 't' -> hour % 2 == 1 ? -1 : leaf[3] - 3;
                default -> throw new IllegalStateException();
            };
            return by < 0 ? null : by;
        }

        int choice(int g) {
            int[] goat = goats.get(g);
            int best = -1;
            if (goat[2] == 0 && goat[0] > 0) {
                for (int l = leaves.size() - 1; l >= 0; l--) {
                    if (leaves.get(l)[2] <= goat[1] && liked(l) != null && (best < 0 || liked(l) >= liked(best))) {
                        best = l;
                    }
                }
            }
            return best;
        }

        /** One row for each bite: goat, leaf, how much. */
        List<int[]> hour() {
            List<int[]> bites = new ArrayList<>();
            for (int g = 0; g < goats.size(); g++) {
                int l = choice(g);
                if (l >= 0) {
                    int[] leaf = leaves.get(l);
                    int much = Math.min(leaf[4], "sa".indexOf(leaf[0]) >= 0 ? 2 : 1);
                    leaf[4] -= much;
                    goats.get(g)[0] = Math.max(0, goats.get(g)[0] - much);
                    bites.add(new int[] {g, l, much});
                }
            }
            for (int[] goat : goats) {
                goat[0] = Math.min(99, goat[0] + grows);
                goat[2] = goat[2] > 0 ? goat[2] - 1 : 0;
            }
            hour++;
            return bites;
        }

        List<int[]> hours(int n) {
            List<int[]> bites = new ArrayList<>();
            for (int i = 0; i < n; i++) {
                bites.addAll(hour());
            }
            return bites;
        }

        Set<Integer> inForce() {
            Set<Integer> set = new HashSet<>();
            for (int l = 0; l < leaves.size(); l++) {
                if (2 * leaves.get(l)[4] >= leaves.get(l)[1]) {
                    set.add(l);
                }
            }
            return set;
        }

        int left() {
            return leaves.stream().mapToInt(l -> l[4]).sum();
        }
    }

    private final long[][] rows = new long[8][];
    private final int[] lanes = new int[8];
    private final List<Integer> tape = new ArrayList<>();
    private final ArrayDeque<World> past = new ArrayDeque<>();
    private final World[] images = new World[2];
    private final List<Integer> notes = new ArrayList<>();
    private World world;
    private int status, fault;

    /** A call by its name and its arguments. */
    long call(String name, int... x) {
        try {
            return answer(name, x);
        } catch (Refused r) {
            if (r.answer <= NULL && r.answer >= STORE) {
                status = -1000010 - r.answer;
            }
            return r.answer;
        }
    }

    private long answer(String name, int[] x) {
        switch (name) {
            case "row": {
                bad(x[0] < 0 || x[0] > 7 || x[1] < 0 || x[1] > 2 || x[2] > 40);
                refuse(x[2] < 0, SIZE);
                rows[x[0]] = new long[x[2]];
                lanes[x[0]] = x[1];
                status = 0;
                return x[2];
            }
            case "set": {
                bad(x[0] < 0 || x[0] > 7);
                refuse(rows[x[0]] == null, NULL);
                refuse(x[1] < 0 || x[1] >= rows[x[0]].length, PLACE);
                int bits = 8 << lanes[x[0]];
                long v = x[2] & ((1L << bits) - 1);
                v = v >= 1L << (bits - 1) ? v - (1L << bits) : v;
                rows[x[0]][x[1]] = v;
                status = 0;
                return v;
            }
            case "copy": {
                bad(x[0] < 0 || x[0] > 7 || x[2] < 0 || x[2] > 7);
                refuse(rows[x[0]] == null || rows[x[2]] == null, NULL);
                refuse(lanes[x[0]] != lanes[x[2]], STORE);
                refuse(outside(x[0], x[1], x[4]) || outside(x[2], x[3], x[4]), PLACE);
                long[] before = rows[x[0]].clone();
                for (int k = 0; k < x[4]; k++) {
                    rows[x[2]][x[3] + k] = before[x[1] + k];
                }
                status = 0;
                return x[4];
            }
            case "drop": {
                bad(x[0] < 0 || x[0] > 7);
                refuse(rows[x[0]] == null, NULL);
                int had = rows[x[0]].length;
                rows[x[0]] = null;
                status = 0;
                return had;
            }
            case "feed": {
                bad(x[0] < 0 || x[0] > 255);
                refuse(tape.size() == 120, FULL);
                tape.add(x[0]);
                return tape.size();
            }
            case "square": return read();
            case "fault": return fault;
            case "undo": {
                refuse(past.isEmpty(), STATE);
                world = past.removeLast();
                return past.size();
            }
            case "status": return status;
            case "trace": return x[0] >= 0 && x[0] < notes.size() ? notes.get(x[0]) : NONE;
            case "count": return count(x[0]);
            case "image": {
                bad(x[0] < 0 || x[0] > 1);
                refuse(world == null, STATE);
                images[x[0]] = world.twin();
                return 1;
            }
            case "restore": {
                bad(x[0] < 0 || x[0] > 1);
                refuse(images[x[0]] == null, STATE);
                world = images[x[0]].twin();
                past.clear();
                return 1;
            }
            default: return worldly(name, x);
        }
    }

    private long worldly(String name, int[] x) {
        switch (name) {
            case "hours": {
                refuse(world == null, STATE);
                bad(x[0] < 1 || x[0] > 24);
                refuse(world.hour + x[0] > 999, FULL);
                long sum = 0;
                for (int i = 0; i < x[0]; i++) {
                    act();
                    sum += world.hour().stream().mapToInt(b -> b[2]).sum();
                }
                return sum;
            }
            case "hang": {
                bad(noLeaf(x[0]) || x[1] < 0 || x[1] > 9);
                refuse(world.leaves.get(x[0])[4] == 0, STATE);
                act();
                return swap(world.leaves.get(x[0]), 2, x[1]);
            }
            case "salt": {
                bad(noLeaf(x[0]));
                refuse(world.leaves.get(x[0])[3] == 19, FULL);
                act();
                return ++world.leaves.get(x[0])[3];
            }
            case "transcribe": {
                bad(noLeaf(x[0]));
                act();
                return swap(world.leaves.get(x[0]), 4, world.leaves.get(x[0])[1]);
            }
            case "drive": {
                bad(noGoat(x[0]) || x[1] < 0 || x[1] > 60);
                act();
                return swap(world.goats.get(x[0]), 2, x[1]);
            }
            case "fodder": {
                bad(noGoat(x[0]));
                act();
                return swap(world.goats.get(x[0]), 0, 0);
            }
            case "leaf": {
                bad(noLeaf(x[0]) || x[1] < 0 || x[1] > 5);
                int[] l = world.leaves.get(x[0]);
                if (x[1] == 4) {
                    return world.liked(x[0]) == null ? NONE : world.liked(x[0]);
                }
                return x[1] == 5 ? l[4] == 0 ? 0 : world.inForce().contains(x[0]) ? 2 : 1 : l[x[1] + 1];
            }
            case "goat": {
                bad(noGoat(x[0]) || x[1] < 0 || x[1] > 3);
                return x[1] < 3 ? world.goats.get(x[0])[x[1]] : world.choice(x[0]) < 0 ? NONE : world.choice(x[0]);
            }
            case "kind": {
                bad(noLeaf(x[0]));
                return kindOf(x[0]);
            }
            case "as": {
                bad(noLeaf(x[0]) || x[1] < 0 || x[1] > 5);
                String[] kinds = {"", "01", "012", "013", "04", "045"};
                refuse(kinds[kindOf(x[0])].indexOf('0' + x[1]) < 0, KIND);
                status = 0;
                return x[0];
            }
            case "ask": {
                bad(noLeaf(x[0]) || x[1] < 0 || x[1] > 1);
                notes.clear();
                return x[1] == 0 ? sizeOf(x[0]) : markOf(x[0]);
            }
            default: return foretold(name, x);
        }
    }

    private long foretold(String name, int[] x) {
        World w = world == null ? null : world.twin();
        switch (name) {
            case "ahead": {
                bad(noLeaf(x[0]) || x[1] < 0 || x[1] > 60);
                w.hours(x[1]);
                return w.leaves.get(x[0])[4];
            }
            case "force": {
                refuse(w == null, STATE);
                bad(x[0] < 0 || x[0] > 60);
                w.hours(x[0]);
                return bits(w.inForce());
            }
            case "emptied": {
                bad(noLeaf(x[0]));
                for (int h = 0; h <= 60; h++) {
                    World there = world.twin();
                    there.hours(h);
                    if (there.leaves.get(x[0])[4] == 0) {
                        return h;
                    }
                }
                return NONE;
            }
            case "eats": {
                bad(noGoat(x[0]) || x[1] < 0 || x[1] > 60);
                return w.hours(x[1]).stream().filter(b -> b[0] == x[0]).mapToInt(b -> b[2]).sum();
            }
            case "guilt": {
                bad(noLeaf(x[0]) || x[1] < 1 || x[1] > 60);
                Set<Integer> guilty = new HashSet<>();
                w.hours(x[1]).stream().filter(b -> b[1] == x[0]).forEach(b -> guilty.add(b[0]));
                return bits(guilty);
            }
            case "gap": {
                refuse(w == null, STATE);
                bad(noLeaves(x[0]));
                for (int h = 0; h <= 60; h++) {
                    World there = world.twin();
                    there.hours(h);
                    if ((bits(there.inForce()) & x[0]) == 0) {
                        return h;
                    }
                }
                return NONE;
            }
            case "hangs":
            case "drives": return fewest(name.equals("drives"), x);
            case "harm": {
                refuse(w == null, STATE);
                bad(x[0] < 1 || x[0] > 60 || x[1] < 0 || x[1] > 1);
                int[] standing = new int[world.goats.size()];
                for (int g = 0; g < standing.length; g++) {
                    int goat = g;
                    standing[g] = behind(x[0], v -> v.goats.get(goat)[2] = 60).inForce().size();
                }
                int best = standing.length - 1;
                for (int g = best; g >= 0; g--) {
                    best = standing[g] >= standing[best] ? g : best;
                }
                return x[1] == 0 ? best : standing[best];
            }
            case "bait": {
                bad(noLeaf(x[0]) || x[1] < 1 || x[1] > 30 || x[2] < 0 || x[2] > 1);
                int best = NONE;
                int most = NONE;
                for (int l = world.leaves.size() - 1; l >= 0; l--) {
                    int other = l;
                    if (l != x[0] && world.leaves.get(l)[4] > 0) {
                        int left = behind(x[1], v -> v.leaves.get(other)[3] = 19).leaves.get(x[0])[4];
                        if (left >= most) {
                            best = l;
                            most = left;
                        }
                    }
                }
                return x[2] == 0 ? best : most;
            }
            case "safeHeight": {
                bad(noLeaf(x[0]) || x[1] < 1 || x[1] > 60);
                refuse(world.leaves.get(x[0])[4] == 0, STATE);
                for (int h = 0; h < 10; h++) {
                    World there = world.twin();
                    there.leaves.get(x[0])[2] = h;
                    if (there.hours(x[1]).stream().noneMatch(b -> b[1] == x[0])) {
                        return h;
                    }
                }
                return NONE;
            }
            default: return guessed(name, x);
        }
    }

    private long guessed(String name, int[] x) {
        switch (name) {
            case "who": {
                bad(noLeaf(x[0]) || x[1] < 0 || x[1] > 2 || noLeaf(x[2]) || x[3] < 0 || x[3] > 7);
                bad(x[5] < 1 || x[5] > 12);
                refuse(rows[x[3]] == null, NULL);
                refuse(outside(x[3], x[4], x[5]), PLACE);
                status = 0;
                long fit = 0;
                for (int v = x[1] == 0 ? 1 : 0; v < new int[] {6, 10, 20}[x[1]]; v++) {
                    World there = world.twin();
                    there.leaves.get(x[0])[new int[] {0, 2, 3}[x[1]]] = x[1] == 0 ? " sahbt".charAt(v) : v;
                    fit |= goesBy(there, x[2], x[3], x[4], x[5]) ? 1L << v : 0;
                }
                return fit;
            }
            case "strayed": {
                bad(noLeaf(x[0]) || x[1] < 0 || x[1] > 7 || x[3] < 1 || x[3] > 12);
                refuse(rows[x[1]] == null, NULL);
                refuse(outside(x[1], x[2], x[3]), PLACE);
                status = 0;
                long fit = goesBy(world.twin(), x[0], x[1], x[2], x[3]) ? 16 : 0;
                for (int g = 0; g < world.goats.size(); g++) {
                    World there = world.twin();
                    there.goats.get(g)[2] = 60;
                    fit |= goesBy(there, x[0], x[1], x[2], x[3]) ? 1L << g : 0;
                }
                return fit;
            }
            case "rivals": {
                refuse(world == null, STATE);
                bad(x[0] < 0 || x[0] > 1);
                List<Integer> pairs = new ArrayList<>();
                for (int a = 0; a < world.leaves.size(); a++) {
                    for (int b = a + 1; b < world.leaves.size(); b++) {
                        if (world.liked(a) != null && world.liked(a).equals(world.liked(b))) {
                            pairs.add(10 * a + b);
                        }
                    }
                }
                return x[0] == 0 ? pairs.size() : pairs.isEmpty() ? NONE : pairs.get(0);
            }
            case "wind": {
                refuse(world == null, STATE);
                bad(x[0] < 0 || x[0] > 7 || x[1] < 0 || x[1] > 10 || x[2] < 0 || x[2] > 1);
                long above = cases(world.twin(), 0, x[0], x[1]);
                long below = 1;
                for (int[] leaf : world.leaves) {
                    below *= leaf[4] > 0 ? 10 : 1;
                }
                for (long d = 2; d <= 5; d += 3) {
                    while (above % d == 0 && below % d == 0) {
                        above /= d;
                        below /= d;
                    }
                }
                return x[2] == 0 ? above : above == 0 ? 1 : below;
            }
            case "drawn": return drawn(x);
            default: throw new IllegalStateException(name);
        }
    }

    private long drawn(int[] x) {
        refuse(world == null, STATE);
        bad(x[0] < 0 || x[0] > 60 || x[1] < 1 || x[1] > 999999 || x[2] < 0 || x[2] > 1);
        World w = world.twin();
        java.math.BigInteger seed = java.math.BigInteger.valueOf(x[1]);
        int emptied = 0;
        for (int h = 0; h < x[0]; h++) {
            seed = seed.multiply(java.math.BigInteger.valueOf(16807)).mod(java.math.BigInteger.valueOf(2147483647));
            int s = seed.intValueExact();
            if (s % 3 == 0) {
                w.goats.get(s % w.goats.size())[2] = 2;
            }
            if (s % 5 == 0) {
                int[] leaf = w.leaves.get(s % w.leaves.size());
                leaf[4] = leaf[1];
            }
            long before = w.leaves.stream().filter(l -> l[4] == 0).count();
            w.hour();
            emptied += w.leaves.stream().filter(l -> l[4] == 0).count() - before;
        }
        return x[2] == 0 ? w.left() : emptied;
    }

    private long fewest(boolean goats, int[] x) {
        refuse(world == null, STATE);
        bad(noLeaves(x[0]) || x[1] < 1 || x[1] > 30 || x[2] < 0 || x[2] > 1);
        int things = goats ? world.goats.size() : world.leaves.size();
        int best = -1;
        for (int set = (1 << things) - 1; set >= 0; set--) {
            int chosen = set;
            boolean allowed = true;
            World there = world.twin();
            for (int t = 0; t < things; t++) {
                if ((chosen >> t & 1) == 1) {
                    if (goats) {
                        there.goats.get(t)[2] = 60;
                    } else {
                        allowed &= there.leaves.get(t)[4] > 0;
                        there.leaves.get(t)[2] = 9;
                    }
                }
            }
            there.hours(x[1]);
            if (allowed && (bits(there.inForce()) & x[0]) == x[0]
                    && (best < 0 || Integer.bitCount(set) <= Integer.bitCount(best))) {
                best = set;
            }
        }
        return best < 0 ? NONE : x[2] == 0 ? Integer.bitCount(best) : best;
    }

    private World behind(int n, Consumer<World> change) {
        World there = world.twin();
        change.accept(there);
        there.hours(n);
        return there;
    }

    /** In how many of the cases of the leaves from l on k or more are in force behind the hour. */
    private long cases(World w, int l, int k, int p) {
        if (l == w.leaves.size()) {
            World there = w.twin();
            there.hour();
            return there.inForce().size() >= k ? 1 : 0;
        }
        if (w.leaves.get(l)[4] == 0) {
            return cases(w, l + 1, k, p);
        }
        World torn = w.twin();
        torn.leaves.get(l)[4] /= 2;
        // A leaf that is torn to nothing is one of the cases as well.
        return p * cases(torn, l + 1, k, p) + (10 - p) * cases(w, l + 1, k, p);
    }

    private boolean goesBy(World w, int leaf, int row, int from, int n) {
        long[] left = new long[n];
        for (int i = 0; i < n; i++) {
            w.hour();
            left[i] = w.leaves.get(leaf)[4];
        }
        return Arrays.equals(left, Arrays.copyOfRange(rows[row], from, from + n));
    }

    private long sizeOf(int l) {
        char sort = (char) world.leaves.get(l)[0];
        if (sort == 't') {
            notes.add(14);
        }
        if (sort == 'a') {
            notes.add(12);
        }
        notes.add("sah".indexOf(sort) >= 0 ? 11 : 13);
        notes.add(10);
        long size = world.leaves.get(l)[1];
        if (sort == 'b' || sort == 't') {
            return (size - 100) * (sort == 't' ? 2 : 1);
        }
        size += markOf(l);
        return sort == 'a' ? -size : size;
    }

    private long markOf(int l) {
        char sort = (char) world.leaves.get(l)[0];
        int left = world.leaves.get(l)[4];
        switch (sort) {
            case 's': notes.addAll(List.of(21, 20)); return l + left;
            case 'h': notes.addAll(List.of(22, 21, 20)); return l + left - 1000;
            case 'a': notes.addAll(List.of(24, 21, 20)); return 2L * (l + left);
            default: notes.addAll(List.of(23, 20)); return l - sizeOf(l);
        }
    }

    private long count(int what) {
        World w = world == null ? new World() : world;
        switch (what) {
            case 0: return Arrays.stream(rows).filter(r -> r != null).count();
            case 1: return w.leaves.size();
            case 2: return w.goats.size();
            case 3: return w.hour;
            case 4: return bits(w.inForce());
            case 5: return w.left();
            case 6: return past.size();
            case 7: return tape.size();
            default: return BAD;
        }
    }

    /** Tokens: place, sort ('#' a number, '$' the end, '?' none, else the byte), value. */
    private List<int[]> tokens() {
        StringBuilder text = new StringBuilder();
        tape.forEach(b -> text.append((char) (int) b));
        List<int[]> found = new ArrayList<>();
        java.util.regex.Matcher m = java.util.regex.Pattern.compile("[0-9]+|[a-z,;]|[^0-9a-z,;]").matcher(text);
        while (m.find()) {
            String token = m.group();
            if (Character.isDigit(token.charAt(0))) {
                found.add(new int[] {m.start(), token.length() < 3 ? '#' : '?',
                    token.length() < 3 ? Integer.parseInt(token) : 0});
            } else {
                found.add(new int[] {m.start(), token.matches("[a-z,;]") ? token.charAt(0) : '?', 0});
            }
        }
        found.add(new int[] {text.length(), '$', 0});
        return found;
    }

    private long read() {
        try {
            List<int[]> tokens = tokens();
            tape.clear();
            World w = new World();
            int[] law = part(tokens, "v", 0, 9, 1, 9);
            w.grows = law[1];
            w.saltiness = law[2];
            do {
                if (w.leaves.size() == 7) {
                    throw new Faulty(tokens.get(0)[0], 3);
                }
                int[] leaf = part(tokens, "sahbt", 1, 20, 0, 9, 0, 9);
                w.leaves.add(new int[] {leaf[0], leaf[1], leaf[2], leaf[3], leaf[1]});
            } while ("sahbt".indexOf(tokens.get(0)[1]) >= 0);
            do {
                if (w.goats.size() == 4 && tokens.get(0)[1] == 'g') {
                    throw new Faulty(tokens.get(0)[0], 3);
                }
                int[] goat = part(tokens, "g", 0, 40, 0, 9);
                w.goats.add(new int[] {goat[1], goat[2], 0});
            } while (tokens.get(0)[1] != '$');
            world = w;
            past.clear();
            return w.leaves.size();
        } catch (Faulty f) {
            fault = f.number;
            return -1000100 - f.place;
        }
    }

    /** A letter, and numbers between commas, with a semicolon behind. */
    private int[] part(List<int[]> tokens, String letters, int... bounds) throws Faulty {
        int[] found = new int[1 + bounds.length / 2];
        found[0] = next(tokens, letters)[1];
        for (int i = 0; i < bounds.length; i += 2) {
            int[] number = next(tokens, "#");
            if (number[2] < bounds[i] || number[2] > bounds[i + 1]) {
                throw new Faulty(number[0], 2);
            }
            found[1 + i / 2] = number[2];
            next(tokens, i + 2 < bounds.length ? "," : ";");
        }
        return found;
    }

    private static int[] next(List<int[]> tokens, String wanted) throws Faulty {
        if (wanted.indexOf(tokens.get(0)[1]) < 0) {
            throw new Faulty(tokens.get(0)[0], 1);
        }
        return tokens.remove(0);
    }

    private void act() {
        past.addLast(world.twin());
        if (past.size() > 24) {
            past.removeFirst();
        }
    }

    private int kindOf(int l) {
        return " sahbt".indexOf(world.leaves.get(l)[0]);
    }

    private boolean noLeaf(int l) {
        return world == null || l < 0 || l >= world.leaves.size();
    }

    private boolean noGoat(int g) {
        return world == null || g < 0 || g >= world.goats.size();
    }

    private boolean noLeaves(int set) {
        return set < 0 || set >> world.leaves.size() != 0;
    }

    private boolean outside(int row, int from, int n) {
        return from < 0 || n < 0 || (long) from + n > rows[row].length;
    }

    private static long bits(Set<Integer> set) {
        return set.stream().mapToLong(i -> 1L << i).sum();
    }

    private static int swap(int[] columns, int i, int value) {
        int before = columns[i];
        columns[i] = value;
        return before;
    }

    private static void bad(boolean so) {
        refuse(so, BAD);
    }

    private static void refuse(boolean so, int answer) {
        if (so) {
            throw new Refused(answer);
        }
    }
}
