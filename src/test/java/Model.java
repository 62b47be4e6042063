import java.util.ArrayList;
import java.util.Arrays;
import java.util.List;
import java.util.regex.Matcher;
import java.util.regex.Pattern;

/** A second reading of the document, slow and plain: hours are gone one by one, ways are all tried. */
final class Model {
    private static final String[] NAMES = {"person", "singer", "thief", "herd", "choir", "faster"};
    private static final int[][] UPPER = {{0}, {0, 1}, {0, 2}, {0, 3}, {0, 1, 4}, {0, 2, 5}};

    private static final class Being {
        int kind;
        int at;
        int goal;
        int meal = 20;
        int fasts = 0;

        Being same() {
            Being b = new Being();
            b.kind = kind;
            b.at = at;
            b.goal = goal;
            b.meal = meal;
            b.fasts = fasts;
            return b;
        }

        boolean is(int upper) {
            return Arrays.stream(UPPER[kind]).anyMatch(k -> k == upper);
        }
    }

    private static final class Town {
        int hour = 0;
        int[] bowls = new int[16];
        List<Being> beings = new ArrayList<>();
        List<int[]> tasks = new ArrayList<>();

        Town same() {
            Town t = new Town();
            t.hour = hour;
            t.bowls = bowls.clone();
            for (Being b : beings) {
                t.beings.add(b.same());
            }
            for (int[] task : tasks) {
                t.tasks.add(task.clone());
            }
            return t;
        }

        void anHour() {
            for (Being b : beings) {
                if (b.at / 4 < b.goal / 4) {
                    b.at += 4;
                } else if (b.at / 4 > b.goal / 4) {
                    b.at -= 4;
                } else if (b.at < b.goal) {
                    b.at++;
                } else if (b.at > b.goal) {
                    b.at--;
                }
                b.fasts = Math.min(999, b.fasts + 1);
            }
            for (int p = 0; p < 16; p++) {
                bowls[p] = Math.max(0, bowls[p] - 1);
            }
            hour++;
        }

        Town later(int n) {
            Town t = same();
            for (int i = 0; i < n; i++) {
                t.anHour();
            }
            return t;
        }

        int shines(Being b) {
            int person = b.meal > b.fasts ? b.meal - b.fasts : 0;
            boolean sings = false;
            for (Being o : beings) {
                sings |= o != b && o.is(1) && o.at == b.at;
            }
            int singer = sings ? person + person / 2 : person;
            int thief = b.fasts < 6 ? person : 0;
            return new int[] {person, singer, thief, 3 * person, 2 * singer, 0}[b.kind];
        }

        int gives(Being b, int p) {
            int light = shines(b);
            for (int s = steps(b.at, p); s > 0; s--) {
                light /= 2;
            }
            return light;
        }

        int light(int p) {
            int light = bowls[p];
            for (Being b : beings) {
                light += gives(b, p);
            }
            return light;
        }

        int allLight() {
            int all = 0;
            for (int p = 0; p < 16; p++) {
                all += light(p);
            }
            return all;
        }

        boolean comes(int task) {
            return tasks.get(task)[1] >= hour;
        }

        boolean done(int task) {
            int[] t = tasks.get(task);
            return comes(task) && later(t[1] - hour).light(t[0]) >= t[2];
        }

        int doneCount() {
            int n = 0;
            for (int t = 0; t < tasks.size(); t++) {
                n += done(t) ? 1 : 0;
            }
            return n;
        }

        Town without(int being) {
            Town t = same();
            t.beings.remove(being);
            return t;
        }
    }

    private Town town = new Town();
    private Town kept = null;
    private final StringBuilder tape = new StringBuilder();
    private final long[][] sheets = new long[4][];
    private final int[] bits = new int[4];
    private final int[] findings = new int[7];

    static int steps(int a, int b) {
        return Math.abs(a / 4 - b / 4) + Math.abs(a % 4 - b % 4);
    }

    private int find(int finding) {
        findings[-1000000001 - finding]++;
        return finding;
    }

    private boolean noBeing(int b) {
        return b < 0 || b >= town.beings.size();
    }

    private boolean noTask(int t) {
        return t < 0 || t >= town.tasks.size();
    }

    private static boolean out(int v, int least, int most) {
        return v < least || v > most;
    }

    private static boolean noPlace(int p) {
        return out(p, 0, 15);
    }

    /** One call by its name; unused arguments are passed over. */
    long call(String name, int a, int b, int c, int d, int e) {
        switch (name) {
            case "bowl": return bowl(a, b);
            case "light": return noPlace(a) ? find(Due.BEYOND) : town.light(a);
            case "brightest": return brightest();
            case "lit": return lit(a);
            case "being": return being(a, b);
            case "of": return of(a, b);
            case "set": return set(a, b, c);
            case "turn": return turn(a, b);
            case "as": return as(a, b);
            case "eat": return eat(a, b);
            case "gives": return noBeing(a) || noPlace(b) ? find(Due.BEYOND) : town.gives(town.beings.get(a), b);
            case "seen": return seen(a);
            case "task": return task(a, b, c);
            case "taskOf": return taskOf(a, b);
            case "hours": return hours(a);
            case "now": return now(a);
            case "on": return noPlace(a) || out(b, 0, 100) ? find(Due.BEYOND) : town.later(b).light(a);
            case "dark": return dark();
            case "out": return outIn();
            case "meet": return meet(a, b);
            case "stealth": return stealth(a, b);
            case "way": return way(a, b, c, false);
            case "first": return way(a, b, c, true);
            case "hang": return hang(a);
            case "meal": return meal(a, b);
            case "needed": return needed();
            case "whom": return whom(a);
            case "goal": return goal(a);
            case "kind": return kind(a);
            case "fasted": return fasted(a, b, c);
            case "feed": return feed(a, b);
            case "wipe": return wipe();
            case "night": return night();
            case "sheet": return sheet(a, b, c);
            case "write": return write(a, b, ((long) c << 32) ^ d);
            case "copy": return copy(a, b, c, d, e);
            case "lays": return lays(a);
            case "map": return map(a);
            case "read": return read(a);
            case "image": kept = town.same(); return 1;
            case "undo": return undo();
            case "tear": return tear();
            case "count": return count(a);
            case "status": return status(a);
            default: throw new IllegalStateException(name);
        }
    }

    private int bowl(int p, int v) {
        if (noPlace(p) || out(v, 0, 99)) {
            return find(Due.BEYOND);
        }
        int was = town.bowls[p];
        town.bowls[p] = v;
        return was;
    }

    private int brightest() {
        int best = 15;
        for (int p = 15; p >= 0; p--) {
            best = town.light(p) >= town.light(best) ? p : best;
        }
        return best;
    }

    private int lit(int v) {
        if (out(v, 0, 9999)) {
            return find(Due.BEYOND);
        }
        int set = 0;
        for (int p = 0; p < 16; p++) {
            set += town.light(p) >= v ? 1 << p : 0;
        }
        return set;
    }

    private int being(int kind, int place) {
        if (out(kind, 0, 5) || noPlace(place)) {
            return find(Due.BEYOND);
        }
        if (town.beings.size() == 10) {
            return find(Due.FULL);
        }
        addBeing(town, kind, place);
        return town.beings.size() - 1;
    }

    private static Being addBeing(Town into, int kind, int place) {
        Being b = new Being();
        b.kind = kind;
        b.at = place;
        b.goal = place;
        into.beings.add(b);
        return b;
    }

    private int of(int being, int what) {
        if (noBeing(being) || out(what, 0, 6)) {
            return find(Due.BEYOND);
        }
        Being b = town.beings.get(being);
        return new int[] {b.kind, b.at, b.goal, b.meal, b.fasts, town.shines(b), steps(b.at, b.goal)}[what];
    }

    private int set(int being, int what, int v) {
        if (noBeing(being) || out(what, 1, 4) || out(v, 0, new int[] {0, 15, 15, 99, 999}[what])) {
            return find(Due.BEYOND);
        }
        Being b = town.beings.get(being);
        int was = of(being, what);
        if (what == 1) {
            b.at = v;
        } else if (what == 2) {
            b.goal = v;
        } else if (what == 3) {
            b.meal = v;
        } else {
            b.fasts = v;
        }
        return was;
    }

    private int turn(int being, int kind) {
        if (noBeing(being) || out(kind, 0, 5)) {
            return find(Due.BEYOND);
        }
        int was = town.beings.get(being).kind;
        town.beings.get(being).kind = kind;
        return was;
    }

    private int as(int being, int kind) {
        if (noBeing(being) || out(kind, 0, 5)) {
            return find(Due.BEYOND);
        }
        return town.beings.get(being).is(kind) ? town.beings.get(being).meal : find(Due.KIND);
    }

    private int eat(int being, int v) {
        if (noBeing(being) || out(v, 0, 99)) {
            return find(Due.BEYOND);
        }
        Being b = town.beings.get(being);
        b.meal = v;
        b.fasts = 0;
        return town.shines(b);
    }

    private int seen(int place) {
        if (noPlace(place)) {
            return find(Due.BEYOND);
        }
        int set = 0;
        for (int b = 0; b < town.beings.size(); b++) {
            set += town.gives(town.beings.get(b), place) >= 1 ? 1 << b : 0;
        }
        return set;
    }

    private int task(int place, int hour, int need) {
        if (noPlace(place) || out(hour, 0, 99) || out(need, 1, 99)) {
            return find(Due.BEYOND);
        }
        if (town.tasks.size() == 8) {
            return find(Due.FULL);
        }
        town.tasks.add(new int[] {place, hour, need});
        return town.tasks.size() - 1;
    }

    private int taskOf(int task, int what) {
        if (noTask(task) || out(what, 0, 4)) {
            return find(Due.BEYOND);
        }
        int[] t = town.tasks.get(task);
        if (what < 3) {
            return t[what];
        }
        boolean yes = what == 3 ? town.light(t[0]) < t[2] : town.done(task);
        return yes ? 1 : 0;
    }

    private int hours(int n) {
        if (out(n, 1, 100)) {
            return find(Due.BEYOND);
        }
        if (town.hour + n > 9999) {
            return find(Due.STATE);
        }
        town = town.later(n);
        return town.allLight();
    }

    private int now(int what) {
        int shine = 0;
        int arrived = 0;
        for (int b = 0; b < town.beings.size(); b++) {
            Being being = town.beings.get(b);
            shine += town.shines(being);
            arrived += being.at == being.goal ? 1 << b : 0;
        }
        int done = 0;
        for (int t = 0; t < town.tasks.size(); t++) {
            done += town.done(t) ? 1 << t : 0;
        }
        int bowls = Arrays.stream(town.bowls).sum();
        int[] all = {town.hour, shine, bowls, town.allLight(), arrived, done};
        return out(what, 0, 5) ? find(Due.BEYOND) : all[what];
    }

    private int dark() {
        for (int hour = town.hour; hour <= 99; hour++) {
            for (int t = 0; t < town.tasks.size(); t++) {
                if (town.tasks.get(t)[1] == hour && !town.done(t)) {
                    return t;
                }
            }
        }
        return find(Due.NONE);
    }

    private int outIn() {
        Town t = town.same();
        for (int n = 0; n <= 100; n++) {
            if (t.allLight() == 0 && t.beings.stream().mapToInt(t::shines).sum() == 0) {
                return n;
            }
            t.anHour();
        }
        return find(Due.NONE);
    }

    private int meet(int one, int other) {
        if (noBeing(one) || noBeing(other) || one == other) {
            return find(Due.BEYOND);
        }
        Town t = town.same();
        for (int n = 0; n <= 100; n++) {
            if (t.beings.get(one).at == t.beings.get(other).at) {
                return n;
            }
            t.anHour();
        }
        return find(Due.NONE);
    }

    /** All ways that pass no place twice, each as its places. */
    private static void allWays(List<Integer> so, int to, List<List<Integer>> ways) {
        int here = so.get(so.size() - 1);
        if (here == to) {
            ways.add(new ArrayList<>(so));
            return;
        }
        for (int p = 0; p < 16; p++) {
            if (steps(here, p) == 1 && !so.contains(p)) {
                so.add(p);
                allWays(so, to, ways);
                so.remove(so.size() - 1);
            }
        }
    }

    private static List<List<Integer>> waysBetween(int from, int to) {
        List<List<Integer>> ways = new ArrayList<>();
        allWays(new ArrayList<>(List.of(from)), to, ways);
        return ways;
    }

    private int glare(List<Integer> way) {
        return way.stream().mapToInt(town::light).max().getAsInt();
    }

    private int stealth(int from, int to) {
        if (noPlace(from) || noPlace(to)) {
            return find(Due.BEYOND);
        }
        return waysBetween(from, to).stream().mapToInt(this::glare).min().getAsInt();
    }

    /** Ways come in the order of their places, so the first of the fewest steps is the first such way. */
    private int way(int from, int to, int v, boolean first) {
        if (noPlace(from) || noPlace(to) || out(v, 0, 9999)) {
            return find(Due.BEYOND);
        }
        List<Integer> best = null;
        for (List<Integer> way : waysBetween(from, to)) {
            if (glare(way) <= v && (best == null || way.size() < best.size())) {
                best = way;
            }
        }
        if (best == null || first && from == to) {
            return find(Due.NONE);
        }
        return first ? best.get(1) : best.size() - 1;
    }

    private static int best(int[] done) {
        int best = 0;
        for (int i = 1; i < done.length; i++) {
            best = done[i] > done[best] ? i : best;
        }
        return best;
    }

    private int hang(int v) {
        if (out(v, 1, 99)) {
            return find(Due.BEYOND);
        }
        int[] done = new int[16];
        for (int p = 0; p < 16; p++) {
            Town t = town.same();
            t.bowls[p] = Math.min(99, t.bowls[p] + v);
            done[p] = t.doneCount();
        }
        return best(done);
    }

    private int meal(int being, int task) {
        if (noBeing(being) || noTask(task)) {
            return find(Due.BEYOND);
        }
        for (int v = 0; v <= 99; v++) {
            Town t = town.same();
            t.beings.get(being).meal = v;
            t.beings.get(being).fasts = 0;
            if (t.done(task)) {
                return v;
            }
        }
        return find(Due.NONE);
    }

    private int needed() {
        if (town.beings.isEmpty()) {
            return find(Due.NONE);
        }
        int[] fewer = new int[town.beings.size()];
        for (int b = 0; b < fewer.length; b++) {
            fewer[b] = town.doneCount() - town.without(b).doneCount();
        }
        return fewer[best(fewer)] > 0 ? best(fewer) : find(Due.NONE);
    }

    private int whom(int task) {
        if (noTask(task)) {
            return find(Due.BEYOND);
        }
        int set = 0;
        for (int b = 0; b < town.beings.size(); b++) {
            set += town.done(task) && !town.without(b).done(task) ? 1 << b : 0;
        }
        return set;
    }

    private int goal(int being) {
        if (noBeing(being)) {
            return find(Due.BEYOND);
        }
        int[] done = new int[16];
        for (int p = 0; p < 16; p++) {
            Town t = town.same();
            t.beings.get(being).goal = p;
            done[p] = t.doneCount();
        }
        return best(done);
    }

    private int kind(int being) {
        if (noBeing(being)) {
            return find(Due.BEYOND);
        }
        int[] done = new int[6];
        for (int k = 0; k < 6; k++) {
            Town t = town.same();
            t.beings.get(being).kind = k;
            done[k] = t.doneCount();
        }
        return best(done);
    }

    private int fasted(int being, int place, int v) {
        if (noBeing(being) || noPlace(place)) {
            return find(Due.BEYOND);
        }
        for (int f = 0; f <= 99; f++) {
            Town t = town.same();
            t.beings.get(being).fasts = f;
            if (t.light(place) == v) {
                return f;
            }
        }
        return find(Due.NONE);
    }

    private int feed(int bytes, int n) {
        if (out(n, 1, 4)) {
            return find(Due.BEYOND);
        }
        if (tape.length() + n > 120) {
            return find(Due.FULL);
        }
        for (int i = n - 1; i >= 0; i--) {
            tape.append((char) (bytes >>> 8 * i & 255));
        }
        return tape.length();
    }

    private int wipe() {
        int had = tape.length();
        tape.setLength(0);
        return had;
    }

    private int night() {
        Town draft = town.same();
        Text text = new Text(tape.toString());
        tape.setLength(0);
        int items = 0;
        do {
            text.item(draft);
            items++;
        } while (text.fault < 0 && text.has(";"));
        text.ends();
        if (text.fault >= 0) {
            return -1 - text.fault;
        }
        town = draft;
        return items;
    }

    /** Tokens by a pattern; after a fault nothing is taken any more. */
    private static final class Text {
        private final List<String> tokens = new ArrayList<>();
        private final List<Integer> places = new ArrayList<>();
        private int next = 0;
        int fault = -1;

        Text(String bytes) {
            Matcher m = Pattern.compile("[a-z]+|[0-9]+|[^ ]", Pattern.DOTALL).matcher(bytes);
            while (m.find()) {
                tokens.add(m.group());
                places.add(m.start());
            }
            tokens.add("");
            places.add(bytes.length());
        }

        private void fail() {
            fault = fault < 0 ? places.get(next) : fault;
        }

        boolean has(String token) {
            boolean has = fault < 0 && tokens.get(next).equals(token);
            next += has ? 1 : 0;
            return has;
        }

        private void must(String token) {
            if (!has(token)) {
                fail();
            }
        }

        void ends() {
            if (!tokens.get(next).isEmpty()) {
                fail();
            }
        }

        private int number(int least, int most) {
            String token = tokens.get(next);
            boolean may = fault < 0 && token.matches("0*[0-9]{1,3}") && !out(Integer.parseInt(token), least, most);
            if (!may) {
                fail();
                return least;
            }
            next++;
            return Integer.parseInt(token);
        }

        void item(Town draft) {
            String word = tokens.get(next);
            int kind = Arrays.asList(NAMES).indexOf(word);
            boolean full = kind >= 0 && draft.beings.size() == 10 || word.equals("task") && draft.tasks.size() == 8;
            if (full) {
                fail();
            } else if (kind >= 0) {
                next++;
                must("at");
                Being b = addBeing(draft, kind, number(0, 15));
                b.goal = has("goes") ? number(0, 15) : b.goal;
                b.meal = has("meal") ? number(0, 99) : 20;
                b.fasts = has("fasts") ? number(0, 999) : 0;
            } else if (has("bowl")) {
                int place = number(0, 15);
                draft.bowls[place] = number(0, 99);
            } else if (has("task")) {
                must("at");
                int place = number(0, 15);
                must("hour");
                int hour = number(0, 99);
                must("need");
                draft.tasks.add(new int[] {place, hour, number(1, 99)});
            } else if (has("eat")) {
                int being = number(0, draft.beings.size() - 1);
                int v = number(0, 99);
                if (fault < 0) {
                    draft.beings.get(being).meal = v;
                    draft.beings.get(being).fasts = 0;
                }
            } else {
                fail();
            }
        }
    }

    private int sheet(int s, int newBits, int n) {
        if (out(s, 0, 3) || !List.of(0, 8, 16, 64).contains(newBits)) {
            return find(Due.BEYOND);
        }
        if (n < 0) {
            return find(Due.SIZE);
        }
        if (n > 40) {
            return find(Due.BEYOND);
        }
        bits[s] = newBits;
        sheets[s] = newBits == 0 ? null : new long[n];
        return newBits == 0 ? 0 : n;
    }

    private long lowest(int s, long v) {
        return v << 64 - bits[s] >> 64 - bits[s];
    }

    long write(int s, int i, long v) {
        if (out(s, 0, 3)) {
            return find(Due.BEYOND);
        }
        if (sheets[s] == null) {
            return find(Due.MISSING);
        }
        if (out(i, 0, sheets[s].length - 1)) {
            return find(Due.BEYOND);
        }
        long was = sheets[s][i];
        sheets[s][i] = lowest(s, v);
        return was;
    }

    private int copy(int s, int from, int t, int to, int n) {
        if (out(s, 0, 3) || out(t, 0, 3)) {
            return find(Due.BEYOND);
        }
        if (sheets[s] == null || sheets[t] == null) {
            return find(Due.MISSING);
        }
        if (bits[s] != bits[t]) {
            return find(Due.KIND);
        }
        boolean wrong = from < 0 || to < 0 || n < 0 || (long) from + n > sheets[s].length || (long) to + n > sheets[t].length;
        if (wrong) {
            return find(Due.BEYOND);
        }
        long[] were = sheets[s].clone();
        for (int i = 0; i < n; i++) {
            sheets[t][to + i] = were[from + i];
        }
        return n;
    }

    private int lays(int s) {
        if (out(s, 0, 3)) {
            return find(Due.BEYOND);
        }
        if (sheets[s] == null) {
            return find(Due.MISSING);
        }
        int came = 0;
        for (int p = 0; p < 16 && p < sheets[s].length; p++) {
            long v = sheets[s][p];
            if (v >= 0 && v < 100) {
                town.bowls[p] = (int) v;
                came++;
            }
        }
        return came;
    }

    private int map(int s) {
        if (out(s, 0, 3)) {
            return find(Due.BEYOND);
        }
        if (sheets[s] == null) {
            return find(Due.MISSING);
        }
        int p = 0;
        for (; p < 16 && p < sheets[s].length; p++) {
            sheets[s][p] = lowest(s, town.light(p));
        }
        return p;
    }

    private int read(int s) {
        if (out(s, 0, 3)) {
            return find(Due.BEYOND);
        }
        if (sheets[s] == null) {
            return find(Due.MISSING);
        }
        int places = Math.min(16, sheets[s].length);
        int sets = 0;
        for (int set = 0; set < 1 << town.beings.size(); set++) {
            boolean just = true;
            for (int p = 0; p < places && just; p++) {
                long light = town.bowls[p];
                for (int b = 0; b < town.beings.size(); b++) {
                    light += (set & 1 << b) != 0 ? town.gives(town.beings.get(b), p) : 0;
                }
                just = light == sheets[s][p];
            }
            sets += just ? 1 : 0;
        }
        return sets;
    }

    private int undo() {
        if (kept == null) {
            return find(Due.NONE);
        }
        town = kept.same();
        return town.beings.size();
    }

    private int tear() {
        int was = kept == null ? 0 : 1;
        kept = null;
        return was;
    }

    private int count(int what) {
        int meals = town.beings.stream().mapToInt(b -> b.meal).sum();
        int[] all = {town.beings.size(), town.tasks.size(), tape.length(), meals};
        return out(what, 0, 3) ? find(Due.BEYOND) : all[what];
    }

    private int status(int which) {
        if (out(which, -1, 6)) {
            return find(Due.BEYOND);
        }
        return which < 0 ? Arrays.stream(findings).sum() : findings[which];
    }
}
