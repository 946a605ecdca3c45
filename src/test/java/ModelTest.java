import java.math.BigInteger;
import java.util.ArrayList;
import java.util.Arrays;
import java.util.HashMap;
import java.util.List;
import java.util.Map;
import java.util.Random;

/**
 * Runs of calls by fixed seeds, answered by BoatNames and by a model that is written after the
 * document on its own: it keeps whole histories and lists, and shares no code with the class.
 */
public final class ModelTest {
    private static final int EVENT = 6;
    private static final int GET = 32;
    private static final int DIGEST = 36;
    private static int wrong = 0;

    public static void main(String[] args) {
        for (int seed = 1; seed <= 400; seed++) {
            run(new Random(seed), seed);
        }
        System.out.println(wrong == 0 ? "all answers are as the model's" : wrong + " answers are not as the model's");
        if (wrong != 0) {
            System.exit(1);
        }
    }

    private static void run(Random random, int seed) {
        BoatNames real = new BoatNames();
        Model model = new Model();
        int calls = 0;
        if (seed % 3 != 0) {
            int well = random.nextInt(8) == 0 ? 0 : 1;
            calls += typeAll(real, model, 0, hates(random, random.nextInt(13)), seed);
            calls += typeAll(real, model, 1, boats(random, random.nextInt(8) + well), seed);
            int events = random.nextInt(9);
            for (int e = 0; e < events; e++, calls++) {
                int[] event = {random.nextInt(3), random.nextInt(24), random.nextInt(8)};
                compare(real, model, EVENT, event, seed);
            }
        }
        while (calls < 300) {
            int which = drawCall(random);
            compare(real, model, which, drawNumbers(which, model, random), seed);
            calls++;
        }
        compare(real, model, DIGEST, new int[0], seed);
    }

    private static int typeAll(BoatNames real, Model model, int text, String bytes, int seed) {
        for (char b : bytes.toCharArray()) {
            compare(real, model, 0, new int[] {text, b}, seed);
        }
        return bytes.length();
    }

    private static String hates(Random random, int n) {
        StringBuilder text = new StringBuilder();
        for (int i = 0; i < n; i++) {
            int who = random.nextInt(4) == 0 ? random.nextInt(8) : random.nextInt(3);
            int whom = (who + 1 + (random.nextInt(4) == 0 ? random.nextInt(7) : random.nextInt(2))) % 8;
            text.append(i == 0 ? "" : ";").append(who).append(whom).append(1 + random.nextInt(9));
        }
        return text.toString();
    }

    private static String boats(Random random, int n) {
        StringBuilder text = new StringBuilder();
        int latest = 1 + random.nextInt(24);
        for (int i = 0; i < n; i++) {
            text.append(i == 0 ? "" : ";").append("lst".charAt(random.nextInt(3)));
            text.append(random.nextInt(3) == 0 ? random.nextInt(8) : random.nextInt(4));
            text.append((char) ('a' + random.nextInt(latest))).append(1 + random.nextInt(9));
        }
        return text.toString();
    }

    private static int number(Random random, int bound) {
        switch (random.nextInt(24)) {
            case 0:
                return -1;
            case 1:
                return bound;
            case 2:
                int[] far = {Integer.MIN_VALUE, Integer.MAX_VALUE, -2, bound + 1, 100, -100};
                return far[random.nextInt(far.length)];
            default:
                return random.nextInt(bound);
        }
    }

    /** The bounds of each call's numbers, in the order of the document's face. */
    private static final int[][] BOUNDS = {
        {2, 256}, {2}, {2}, {2}, {8, 8}, {8, 4}, {3, 24, 8}, {}, {4},
        {24, 8, 8}, {24, 8, 4}, {24}, {8, 2}, {2}, {}, {}, {8},
        {8, 2}, {8, 2}, {8, 2}, {2},
        {24, 8, 9}, {}, {}, {8}, {8, 8}, {8, 8}, {17, 8, 2}, {1 << 30, 9, 2},
        {4, 3, 61}, {4}, {4, 3, 60, 1 << 20}, {4, 3, 60}, {4, 60, 4, 60, 60}, {8, 4}, {9}, {},
    };

    /** Texts are seldom broken again once they stand, or most runs would be empty ones. */
    private static int drawCall(Random random) {
        int which = random.nextInt(BOUNDS.length);
        if (which < 3 && random.nextInt(4) != 0) {
            return EVENT;
        }
        return which == DIGEST && random.nextInt(6) != 0 ? GET : which;
    }

    private static int[] drawNumbers(int which, Model model, Random random) {
        int[] a = new int[BOUNDS[which].length];
        for (int i = 0; i < a.length; i++) {
            a[i] = number(random, BOUNDS[which][i]);
        }
        soften(which, a, model, random);
        return a;
    }

    private static void compare(BoatNames real, Model model, int which, int[] a, int seed) {
        long got = ofReal(real, which, a);
        long want = model.answer(which, a);
        if (got != want) {
            wrong++;
            if (wrong < 40) {
                System.out.println("seed " + seed + ": call " + which + Arrays.toString(a) + " answered " + got
                    + ", due is " + want + " on " + model);
            }
        }
    }

    /** Makes calls that would all but always be refused go through now and then. */
    private static void soften(int which, int[] a, Model model, Random random) {
        if (which == 0 && random.nextInt(2) == 0) {
            a[1] = "01234567899;;lstabcx".charAt(random.nextInt(20));
        }
        if (which == 29 && random.nextInt(2) == 0) {
            a[2] = random.nextInt(12);
        }
        if ((which == 31 || which == 32) && a[0] >= 0 && a[0] < 4 && model.sheets[a[0]] != null && random.nextInt(3) != 0) {
            a[1] = model.forms[a[0]];
            a[2] = random.nextInt(model.sheets[a[0]].length + 1);
            if (which == 31 && random.nextInt(2) == 0) {
                a[3] = random.nextInt(25);
            }
        }
        if (which == 31 && random.nextInt(3) == 0) {
            a[3] = random.nextInt();
        }
        if (which == 33 && random.nextInt(2) == 0) {
            a[1] = random.nextInt(8);
            a[3] = random.nextInt(8);
            a[4] = random.nextInt(8);
        }
        if (which == 28 && random.nextInt(2) == 0) {
            a[0] = random.nextInt();
        }
        if (which == 20 && random.nextInt(3) == 0) {
            a[0] = -1;
        }
        if (which == 21 && random.nextInt(2) == 0) {
            // Mostly something that did come out so.
            a[0] = random.nextInt(24);
            a[1] = random.nextInt(8);
            List<int[]> boats = model.boats();
            if (a[1] < boats.size()) {
                Model.History h = model.history(model.hate(), boats, model.events);
                int name = h.names[a[0]][a[1]];
                a[2] = name < 0 ? 8 : name;
            }
        }
    }

    private static long ofReal(BoatNames x, int which, int[] a) {
        switch (which) {
            case 0: return x.type(a[0], a[1]);
            case 1: return x.wipe(a[0]);
            case 2: return x.undo(a[0]);
            case 3: return x.fault(a[0]);
            case 4: return x.told(a[0], a[1]);
            case 5: return x.boat(a[0], a[1]);
            case 6: return x.event(a[0], a[1], a[2]);
            case 7: return x.back();
            case 8: return x.read(a[0]);
            case 9: return x.hates(a[0], a[1], a[2]);
            case 10: return x.at(a[0], a[1], a[2]);
            case 11: return x.afloat(a[0]);
            case 12: return x.named(a[0], a[1]);
            case 13: return x.first(a[0]);
            case 14: return x.loved();
            case 15: return x.bitter();
            case 16: return x.longs(a[0]);
            case 17: return x.wrong(a[0], a[1]);
            case 18: return x.pay(a[0], a[1]);
            case 19: return x.waits(a[0], a[1]);
            case 20: return x.spare(a[0]);
            case 21: return x.seen(a[0], a[1], a[2]);
            case 22: return x.forget();
            case 23: return x.never();
            case 24: return x.sort(a[0]);
            case 25: return x.hated(a[0], a[1]);
            case 26: return x.ask(a[0], a[1]);
            case 27: return x.chance(a[0], a[1], a[2]);
            case 28: return x.decades(a[0], a[1], a[2]);
            case 29: return x.sheet(a[0], a[1], a[2]);
            case 30: return x.lose(a[0]);
            case 31: return x.put(a[0], a[1], a[2], a[3]);
            case 32: return x.get(a[0], a[1], a[2]);
            case 33: return x.copy(a[0], a[1], a[2], a[3], a[4]);
            case 34: return x.write(a[0], a[1]);
            case 35: return x.count(a[0]);
            default: return x.digest();
        }
    }

    /** The document, told once more: slowly, with lists and whole histories. */
    private static final class Model {
        final String[] texts = {"", ""};
        final List<int[]> events = new ArrayList<>();
        final List<int[]> seen = new ArrayList<>();
        final int[][] sheets = new int[4][];
        final int[] forms = new int[4];
        int finding = 0;

        @Override
        public String toString() {
            StringBuilder all = new StringBuilder(texts[0]).append(" | ").append(texts[1]).append(" |");
            events.forEach(e -> all.append(Arrays.toString(e)));
            all.append(" |");
            seen.forEach(s -> all.append(Arrays.toString(s)));
            return all.toString();
        }

        static final class History {
            final int[][][] hate = new int[24][][];
            final int[][] states = new int[24][];
            final int[][] names = new int[24][];
            final int[][] grudges = new int[24][];
            final int[][] strengths = new int[24][];

            int atSea(int boat) {
                int weeks = 0;
                for (int[] behind : states) {
                    weeks += behind[boat] == 1 ? 1 : 0;
                }
                return weeks;
            }

            int end(int state) {
                return (int) Arrays.stream(states[23]).filter(s -> s == state).count();
            }
        }

        int fault(int text) {
            String pattern = text == 0 ? "001;" : "s0a1;";
            String bytes = texts[text];
            for (int i = 0; i < bytes.length(); i++) {
                char b = bytes.charAt(i);
                char kind = pattern.charAt(i % pattern.length());
                boolean may = kind == ';' ? b == ';'
                    : kind == 's' ? "lst".indexOf(b) >= 0
                    : kind == 'a' ? "abcdefghijklmnopqrstuvwx".indexOf(b) >= 0
                    : kind == '0' ? "01234567".indexOf(b) >= 0
                    : "123456789".indexOf(b) >= 0;
                boolean self = text == 0 && i % 4 == 1 && b == bytes.charAt(i - 1);
                if (!may || self) {
                    return i;
                }
            }
            boolean ended = bytes.isEmpty() || bytes.length() % pattern.length() == pattern.length() - 1;
            return ended ? -1 : bytes.length();
        }

        String[] parts(int text) {
            return fault(text) != -1 || texts[text].isEmpty() ? new String[0] : texts[text].split(";");
        }

        int[][] hate() {
            int[][] hate = new int[8][8];
            for (String part : parts(0)) {
                hate[part.charAt(0) - '0'][part.charAt(1) - '0'] = part.charAt(2) - '0';
            }
            return hate;
        }

        List<int[]> boats() {
            List<int[]> boats = new ArrayList<>();
            for (String part : parts(1)) {
                boats.add(new int[] {"lst".indexOf(part.charAt(0)), part.charAt(1) - '0', part.charAt(2) - 'a', part.charAt(3) - '0'});
            }
            return boats;
        }

        History history(int[][] hateAtFirst, List<int[]> boats, List<int[]> events) {
            int n = boats.size();
            int[][] hate = deep(hateAtFirst);
            int[] state = new int[n];
            int[] name = new int[n];
            int[] grudge = new int[n];
            int[] strength = new int[n];
            Arrays.fill(name, -1);
            for (int b = 0; b < n; b++) {
                strength[b] = boats.get(b)[3];
            }
            History history = new History();
            for (int week = 0; week < 24; week++) {
                for (int[] e : events) {
                    if (e[1] != week) {
                        continue;
                    }
                    if (e[0] == 0) {
                        for (int b = 0; b < n; b++) {
                            if (state[b] == 1) {
                                strength[b] -= boats.get(b)[0] == 2 ? 2 : 1;
                                strength[b] = strength[b] < 0 ? 0 : strength[b];
                            }
                        }
                    } else if (e[2] < n && state[e[2]] == 1) {
                        int builder = boats.get(e[2])[1];
                        int enemy = name[e[2]];
                        if (e[0] == 1) {
                            grudge[e[2]] = 0;
                            if (hate[enemy][builder] > 0) {
                                hate[enemy][builder]--;
                            }
                        } else {
                            hate[enemy][builder] = 0;
                            hate[builder][enemy] = 0;
                        }
                    }
                }
                for (int b = 0; b < n; b++) {
                    if (boats.get(b)[2] == week) {
                        int builder = boats.get(b)[1];
                        for (int much = 9; much >= 1 && name[b] < 0; much--) {
                            for (int p = 7; p >= 0; p--) {
                                name[b] = hate[p][builder] == much ? p : name[b];
                            }
                        }
                        state[b] = name[b] < 0 ? 3 : 1;
                    }
                }
                for (int b = 0; b < n; b++) {
                    if (state[b] == 1) {
                        int builder = boats.get(b)[1];
                        int more = hate[name[b]][builder];
                        grudge[b] += boats.get(b)[0] == 1 ? more >> 1 : more;
                        if (grudge[b] > 3 * strength[b] || strength[b] == 0) {
                            state[b] = 2;
                            if (hate[builder][name[b]] < 9) {
                                hate[builder][name[b]]++;
                            }
                        }
                    }
                }
                history.hate[week] = deep(hate);
                history.states[week] = state.clone();
                history.names[week] = name.clone();
                history.grudges[week] = grudge.clone();
                history.strengths[week] = strength.clone();
            }
            return history;
        }

        static int[][] deep(int[][] rows) {
            int[][] copy = new int[rows.length][];
            for (int i = 0; i < rows.length; i++) {
                copy[i] = rows[i].clone();
            }
            return copy;
        }

        History history() {
            return history(hate(), boats(), events);
        }

        boolean fits(History h, int boats) {
            for (int[] s : seen) {
                if (s[1] >= boats) {
                    return false;
                }
                int name = h.names[s[0]][s[1]];
                if (name != (s[2] == 8 ? -1 : s[2])) {
                    return false;
                }
            }
            return true;
        }

        List<int[]> without(int... places) {
            List<int[]> rest = new ArrayList<>();
            for (int i = 0; i < events.size(); i++) {
                final int place = i;
                if (Arrays.stream(places).noneMatch(p -> p == place)) {
                    rest.add(events.get(i));
                }
            }
            return rest;
        }

        List<int[]> boatsWith(int boat, int what, int value) {
            List<int[]> changed = new ArrayList<>();
            boats().forEach(b -> changed.add(b.clone()));
            changed.get(boat)[what] = value;
            return changed;
        }

        int[][] hateWith(int who, int whom, int value) {
            int[][] changed = hate();
            changed[who][whom] = value;
            return changed;
        }

        int[] wrong(int boat) {
            int builder = boats().get(boat)[1];
            int[] best = {-1, -1};
            for (int who = 0; who < 8; who++) {
                if (who != builder) {
                    int weeks = history(hateWith(who, builder, 5), boats(), events).atSea(boat);
                    best = weeks > best[1] ? new int[] {who, weeks} : best;
                }
            }
            return best;
        }

        int[] pay(int boat) {
            int[] best = {-1, -1};
            for (int week = 0; week < 24; week++) {
                List<int[]> more = new ArrayList<>(events);
                more.add(new int[] {1, week, boat});
                int weeks = history(hate(), boats(), more).atSea(boat);
                best = weeks > best[1] ? new int[] {week, weeks} : best;
            }
            return best;
        }

        int[] waits(int boat) {
            int[] best = {-1, 99};
            for (int week = 0; week < 24; week++) {
                int sunk = history(hate(), boatsWith(boat, 2, week), events).end(2);
                best = sunk < best[1] ? new int[] {week, sunk} : best;
            }
            return best;
        }

        int[] spare() {
            if (history().end(2) == 0) {
                return new int[0];
            }
            int n = events.size();
            for (int i = 0; i < n; i++) {
                if (history(hate(), boats(), without(i)).end(2) == 0) {
                    return new int[] {i};
                }
            }
            for (int i = 0; i < n; i++) {
                for (int j = i + 1; j < n; j++) {
                    if (history(hate(), boats(), without(i, j)).end(2) == 0) {
                        return new int[] {i, j};
                    }
                }
            }
            return null;
        }

        int hated(int who, int whom) {
            int bits = 0;
            for (int v = 0; v < 10; v++) {
                bits += fits(history(hateWith(who, whom, v), boats(), events), boats().size()) ? 1 << v : 0;
            }
            return bits;
        }

        int ask(int who, int whom) {
            int bits = hated(who, whom);
            int bestWeek = -1;
            int fewest = 99;
            for (int week = 0; week < 24; week++) {
                Map<String, Integer> groups = new HashMap<>();
                int most = 0;
                for (int v = 0; v < 10; v++) {
                    if ((bits >> v) % 2 == 1) {
                        History h = history(hateWith(who, whom, v), boats(), events);
                        most = Math.max(most, groups.merge(Arrays.toString(h.names[week]), 1, Integer::sum));
                    }
                }
                if (most < fewest) {
                    fewest = most;
                    bestWeek = week;
                }
            }
            return bestWeek;
        }

        BigInteger[] chance(int c, int boat) {
            int n = events.size();
            BigInteger above = BigInteger.ZERO;
            for (int taken = 0; taken < 1 << n; taken++) {
                List<int[]> some = new ArrayList<>();
                for (int e = 0; e < n; e++) {
                    if ((taken >> e) % 2 == 1) {
                        some.add(events.get(e));
                    }
                }
                if (history(hate(), boats(), some).states[23][boat] == 2) {
                    above = above.add(BigInteger.valueOf(c).pow(some.size()).multiply(BigInteger.valueOf(16 - c).pow(n - some.size())));
                }
            }
            BigInteger below = BigInteger.valueOf(16).pow(n);
            BigInteger both = above.gcd(below);
            return new BigInteger[] {above.divide(both), below.divide(both)};
        }

        History decades(int seed, int n) {
            List<int[]> drawn = new ArrayList<>();
            int[] bounds = {3, 24, boats().size()};
            int now = seed;
            for (int i = 0; i < n && bounds[2] > 0; i++) {
                int[] e = new int[3];
                for (int k = 0; k < 3; k++) {
                    now = (int) (1103515245L * now + 12345L);
                    e[k] = ((now >> 16) & 0xffff) % bounds[k];
                }
                drawn.add(e);
            }
            return history(hate(), boats(), drawn);
        }

        int found(int number) {
            finding = number;
            return -10 - number;
        }

        static boolean in(int number, int bound) {
            return 0 <= number && number < bound;
        }

        boolean isBad(int which, int[] a) {
            int n = boats().size();
            switch (which) {
                case 0: return !in(a[0], 2) || !in(a[1], 256);
                case 1: case 2: case 3: return !in(a[0], 2);
                case 4: case 25: case 26: return !in(a[0], 8) || !in(a[1], 8) || a[0] == a[1];
                case 5: return !in(a[0], n) || !in(a[1], 4);
                case 6: return !in(a[0], 3) || !in(a[1], 24) || !in(a[2], 8);
                case 8: case 30: return !in(a[0], 4);
                case 9: return !in(a[0], 24) || !in(a[1], 8) || !in(a[2], 8) || a[1] == a[2];
                case 10: return !in(a[0], 24) || !in(a[1], n) || !in(a[2], 4);
                case 11: return !in(a[0], 24);
                case 12: return !in(a[0], 8) || !in(a[1], 2);
                case 13: return !in(a[0], 2);
                case 16: case 24: return !in(a[0], n);
                case 17: case 18: case 19: return !in(a[0], n) || !in(a[1], 2);
                case 20: return a[0] != -1 && !in(a[0], 2);
                case 21: return !in(a[0], 24) || !in(a[1], 8) || !in(a[2], 9);
                case 27: return !in(a[0], 17) || !in(a[1], n) || !in(a[2], 2);
                case 28: return !in(a[1], 9) || !in(a[2], 2);
                case 29: return !in(a[0], 4) || !in(a[1], 3) || a[2] > 60;
                case 31: case 32: return !in(a[0], 4) || !in(a[1], 3);
                case 33: return !in(a[0], 4) || !in(a[2], 4);
                case 34: return !in(a[0], n) || !in(a[1], 4);
                case 35: return !in(a[0], 9);
                default: return false;
            }
        }

        long answer(int which, int[] a) {
            if (isBad(which, a)) {
                return which == 27 ? Long.MIN_VALUE + 2 : which == 32 ? Integer.MIN_VALUE : -2;
            }
            if (which < 9) {
                return tell(which, a);
            }
            return which < 17 ? look(which, a) : which < 29 ? think(which, a) : keep(which, a);
        }

        long tell(int which, int[] a) {
            switch (which) {
                case 0:
                    if (texts[a[0]].length() == (a[0] == 0 ? 47 : 39)) {
                        return -4;
                    }
                    texts[a[0]] += (char) a[1];
                    return texts[a[0]].length();
                case 1:
                    int had = texts[a[0]].length();
                    texts[a[0]] = "";
                    return had;
                case 2:
                    if (texts[a[0]].isEmpty()) {
                        return -3;
                    }
                    texts[a[0]] = texts[a[0]].substring(0, texts[a[0]].length() - 1);
                    return texts[a[0]].length();
                case 3: return fault(a[0]);
                case 4: return hate()[a[0]][a[1]];
                case 5: return boats().get(a[0])[a[1]];
                case 6:
                    if (events.size() == 8) {
                        return -4;
                    }
                    events.add(a.clone());
                    return events.size();
                case 7:
                    if (events.isEmpty()) {
                        return -3;
                    }
                    events.remove(events.size() - 1);
                    return events.size();
                default:
                    int[] items = sheets[a[0]];
                    if (items == null) {
                        return found(1);
                    }
                    int came = 0;
                    for (int i = 0; i + 3 <= items.length; i += 3) {
                        int[] e = Arrays.copyOfRange(items, i, i + 3);
                        if (isBad(6, e) || events.size() == 8) {
                            break;
                        }
                        events.add(e);
                        came++;
                    }
                    return came;
            }
        }

        long look(int which, int[] a) {
            History h = history();
            switch (which) {
                case 9: return h.hate[a[0]][a[1]][a[2]];
                case 10: return new int[][][] {h.states, h.names, h.grudges, h.strengths}[a[2]][a[0]][a[1]];
                case 11: return Arrays.stream(h.states[a[0]]).filter(s -> s == 1).count();
                case 12:
                    int many = 0;
                    for (int b = 0; b < boats().size(); b++) {
                        many += h.names[23][b] == a[0] && (a[1] == 0 || h.states[23][b] == 2) ? 1 : 0;
                    }
                    return many;
                case 13:
                    for (int week = 0; week < 24; week++) {
                        for (int b = 0; b < boats().size(); b++) {
                            if (h.states[week][b] == 2) {
                                return a[0] == 0 ? week : b;
                            }
                        }
                    }
                    return -1;
                case 14:
                    int bits = 0;
                    for (int p = 0; p < 8; p++) {
                        int sum = 0;
                        for (int q = 0; q < 8; q++) {
                            sum += h.hate[23][q][p];
                        }
                        bits += sum == 0 ? 1 << p : 0;
                    }
                    return bits;
                case 15:
                    int who = 7;
                    for (int p = 6; p >= 0; p--) {
                        who = Arrays.stream(h.hate[23][p]).sum() >= Arrays.stream(h.hate[23][who]).sum() ? p : who;
                    }
                    return who;
                default: return h.atSea(a[0]);
            }
        }

        long think(int which, int[] a) {
            int n = boats().size();
            switch (which) {
                case 17: return wrong(a[0])[a[1]];
                case 18: return pay(a[0])[a[1]];
                case 19: return waits(a[0])[a[1]];
                case 20:
                    int[] spare = spare();
                    return spare == null ? -1 : a[0] == -1 ? spare.length : a[0] < spare.length ? spare[a[0]] : -1;
                case 21:
                    if (seen.size() == 8) {
                        return -4;
                    }
                    seen.add(a.clone());
                    return seen.size();
                case 22:
                    int had = seen.size();
                    seen.clear();
                    return had;
                case 23:
                    int never = 0;
                    for (int e = 0; e < events.size(); e++) {
                        never += fits(history(hate(), boats(), without(e)), n) ? 1 << e : 0;
                    }
                    return never;
                case 24:
                    int sorts = 0;
                    for (int s = 0; s < 3; s++) {
                        sorts += fits(history(hate(), boatsWith(a[0], 0, s), events), n) ? 1 << s : 0;
                    }
                    return sorts;
                case 25: return hated(a[0], a[1]);
                case 26: return ask(a[0], a[1]);
                case 27: return chance(a[0], a[1])[a[2]].longValueExact();
                default: return decades(a[0], a[1]).end(a[2] == 0 ? 2 : 1);
            }
        }

        int itemFinding(int[] a) {
            return sheets[a[0]] == null ? 1 : forms[a[0]] != a[1] ? 3 : !in(a[2], sheets[a[0]].length) ? 2 : 0;
        }

        static int cut(int form, int v) {
            int bits = form == 0 ? 24 : form == 1 ? 16 : 0;
            return v << bits >> bits;
        }

        long keep(int which, int[] a) {
            switch (which) {
                case 29:
                    if (a[2] < 0) {
                        return found(5);
                    }
                    sheets[a[0]] = new int[a[2]];
                    forms[a[0]] = a[1];
                    return a[2];
                case 30:
                    if (sheets[a[0]] == null) {
                        return found(1);
                    }
                    int had = sheets[a[0]].length;
                    sheets[a[0]] = null;
                    return had;
                case 31:
                    if (itemFinding(a) != 0) {
                        return found(itemFinding(a));
                    }
                    sheets[a[0]][a[2]] = cut(a[1], a[3]);
                    return 1;
                case 32:
                    if (itemFinding(a) != 0) {
                        found(itemFinding(a));
                        return Integer.MIN_VALUE;
                    }
                    return sheets[a[0]][a[2]];
                case 33: return copied(a);
                case 34:
                    if (sheets[a[1]] == null) {
                        return found(1);
                    }
                    History h = history();
                    int week = 0;
                    for (; week < 24 && week < sheets[a[1]].length; week++) {
                        sheets[a[1]][week] = h.grudges[week][a[0]];
                    }
                    return week;
                case 35: return counted(a[0]);
                default: return digest();
            }
        }

        long copied(int[] a) {
            int[] from = sheets[a[0]];
            int[] to = sheets[a[2]];
            if (from == null || to == null) {
                return found(1);
            }
            if (forms[a[0]] != forms[a[2]]) {
                return found(4);
            }
            if (a[1] < 0 || a[3] < 0 || a[4] < 0 || (long) a[1] + a[4] > from.length || (long) a[3] + a[4] > to.length) {
                return found(2);
            }
            int[] moved = Arrays.copyOfRange(from, a[1], a[1] + a[4]);
            for (int i = 0; i < moved.length; i++) {
                to[a[3] + i] = moved[i];
            }
            return 1;
        }

        long counted(int what) {
            switch (what) {
                case 0: return parts(0).length;
                case 1: return boats().size();
                case 2: return texts[0].length();
                case 3: return texts[1].length();
                case 4: return events.size();
                case 5: return history().end(2);
                case 6: return Arrays.stream(history().hate[23]).flatMapToInt(Arrays::stream).sum();
                case 7: return seen.size();
                default: return finding;
            }
        }

        long digest() {
            List<Long> all = new ArrayList<>();
            for (int what = 0; what < 8; what++) {
                all.add(counted(what));
            }
            all.add((long) fault(0));
            all.add((long) fault(1));
            for (int b = 0; b < boats().size(); b++) {
                for (int what = 0; what < 4; what++) {
                    all.add(answer(5, new int[] {b, what}));
                }
                for (int week : new int[] {0, 7, 15, 23}) {
                    for (int what = 0; what < 4; what++) {
                        all.add(answer(10, new int[] {week, b, what}));
                    }
                }
                all.add(answer(16, new int[] {b}));
                for (int plan = 17; plan < 20; plan++) {
                    all.add(answer(plan, new int[] {b, 0}));
                    all.add(answer(plan, new int[] {b, 1}));
                }
                all.add(answer(24, new int[] {b}));
                all.add(answer(27, new int[] {5, b, 0}));
                all.add(answer(27, new int[] {5, b, 1}));
            }
            for (int p = 0; p < 8; p++) {
                int next = p == 7 ? 0 : p + 1;
                all.add(answer(12, new int[] {p, 0}));
                all.add(answer(12, new int[] {p, 1}));
                all.add(answer(9, new int[] {23, p, next}));
                all.add(answer(25, new int[] {p, next}));
                all.add(answer(26, new int[] {p, next}));
            }
            for (int week = 0; week < 24; week++) {
                all.add(answer(11, new int[] {week}));
            }
            all.add(answer(13, new int[] {0}));
            all.add(answer(13, new int[] {1}));
            all.add(answer(14, new int[0]));
            all.add(answer(15, new int[0]));
            all.add(answer(20, new int[] {-1}));
            all.add(answer(20, new int[] {0}));
            all.add(answer(23, new int[0]));
            all.add(answer(28, new int[] {7, 6, 0}));
            all.add(answer(28, new int[] {7, 6, 1}));
            long h = 17;
            for (long each : all) {
                h = 31 * h + each;
            }
            return h;
        }
    }
}
