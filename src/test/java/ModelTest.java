import java.lang.reflect.Method;
import java.util.ArrayList;
import java.util.Arrays;
import java.util.Comparator;
import java.util.HashMap;
import java.util.List;
import java.util.Map;
import java.util.Random;

/** Random runs of calls, the same for the class and for the model; after many findings all that can be told is asked. */
public final class ModelTest {
    private static final int RUNS = 900;
    /** The document tells what an object answers for so many calls. */
    private static final int CALLS_MOST = 512;
    /** No step of a run takes more calls than a text of 120 bytes and a look at the whole behind it. */
    private static final int STEP_MOST = 60;
    private static final int[] EDGES = {-1, 0, 1, 15, 16, 99, 100, 101, 999, 1000, 9999, 10000,
        Integer.MIN_VALUE, Integer.MAX_VALUE};
    private static final String[] WORDS = {"person", "singer", "thief", "herd", "choir", "faster", "at", "goes", "meal",
        "fasts", "bowl", "task", "hour", "need", "eat", ";", "!", "nought", "0", "7", "15", "16", "99", "100", "999", "1000"};
    /** Calls that build a town come oftener than the rest. */
    private static final List<String> BUILDING = List.of("being", "being", "being", "bowl", "set", "set", "task", "task",
        "eat", "turn", "hours", "text", "text");

    private static final Due due = new Due();
    private static final Map<String, Integer> plainAnswers = new HashMap<>();
    private static int calls = 0;

    public static void main(String[] args) throws Exception {
        Method[] face = Arrays.stream(SupperLight.class.getDeclaredMethods())
            .filter(m -> java.lang.reflect.Modifier.isPublic(m.getModifiers()))
            .sorted(Comparator.comparing(Method::getName)).toArray(Method[]::new);
        due.is("calls of the face", face.length, 44);
        Map<String, Method> byName = new HashMap<>();
        for (Method m : face) {
            byName.put(m.getName(), m);
        }
        for (int run = 0; run < RUNS; run++) {
            oneRun(run, face, byName);
        }
        for (Method m : face) {
            due.is(m.getName() + " answered no finding often enough",
                plainAnswers.getOrDefault(m.getName(), 0) >= 100 ? 1 : 0, 1);
        }
        due.end();
    }

    private static void oneRun(int run, Method[] face, Map<String, Method> byName) throws Exception {
        Random random = new Random(run);
        SupperLight x = new SupperLight();
        Model model = new Model();
        calls = 0;
        if (run % 30 == 0) {
            nearTheLastHour(run, x, model);
        }
        while (calls + STEP_MOST <= CALLS_MOST) {
            boolean builds = random.nextInt(100) < (calls < 100 ? 70 : 15);
            String name = builds ? BUILDING.get(random.nextInt(BUILDING.size())) : face[random.nextInt(face.length)].getName();
            if (name.equals("hours") && random.nextInt(3) != 0) {
                continue;
            }
            if (name.equals("text")) {
                text(run, random, x, model);
            } else {
                both(run, random, byName.get(name), x, model);
            }
        }
    }

    private static void nearTheLastHour(int run, SupperLight x, Model model) {
        for (int i = 0; i < 99; i++) {
            due.is("run " + run + ": hours", x.hours(100), model.call("hours", 100, 0, 0, 0, 0));
            calls++;
        }
    }

    private static void both(int run, Random random, Method m, SupperLight x, Model model) throws Exception {
        String name = m.getName();
        int[] a = arguments(name, random);
        if (name.equals("fasted") && random.nextBoolean() && a[1] >= 0 && a[1] < 16) {
            a[2] = x.light(a[1]) + 4 - random.nextInt(9);
            calls++;
        }
        Class<?>[] types = m.getParameterTypes();
        Object[] given = new Object[types.length];
        for (int i = 0; i < types.length; i++) {
            given[i] = a[i];
        }
        if (name.equals("write")) {
            given[2] = ((long) a[2] << 32) ^ a[3];
        }
        long got = ((Number) m.invoke(x, given)).longValue();
        long want = model.call(name, a[0], a[1], a[2], a[3], a[4]);
        calls++;
        due.is("run " + run + ": " + name + Arrays.toString(given), got, want);
        if (want > -1000000000 || name.equals("write")) {
            plainAnswers.merge(name, 1, Integer::sum);
        } else if (random.nextInt(4) == 0) {
            whole(run, name, x, model);
        }
    }

    /** All of the state that calls can tell without a change. */
    private static void whole(int run, String after, SupperLight x, Model model) {
        String where = "run " + run + " after " + after + ": ";
        calls += 18;
        for (int what = 0; what < 6; what++) {
            due.is(where + "now " + what, x.now(what), model.call("now", what, 0, 0, 0, 0));
        }
        for (int what = 0; what < 4; what++) {
            due.is(where + "count " + what, x.count(what), model.call("count", what, 0, 0, 0, 0));
        }
        for (int which = -1; which < 7; which++) {
            due.is(where + "status " + which, x.status(which), model.call("status", which, 0, 0, 0, 0));
        }
    }

    private static int pick(Random random, int least, int most) {
        if (random.nextInt(40) == 0) {
            return EDGES[random.nextInt(EDGES.length)];
        }
        return least + random.nextInt(most - least + 1);
    }

    private static int[] arguments(String name, Random r) {
        int[] a = new int[5];
        int place = pick(r, 0, 15);
        int being = pick(r, 0, r.nextInt(3) == 0 ? 9 : 3);
        int task = pick(r, 0, r.nextInt(3) == 0 ? 7 : 2);
        int small = pick(r, 0, 99);
        int s = pick(r, 0, 3);
        switch (name) {
            case "bowl": return new int[] {place, small, 0, 0, 0};
            case "lit": return new int[] {pick(r, 0, 60), 0, 0, 0, 0};
            case "being": return new int[] {pick(r, 0, 5), place, 0, 0, 0};
            case "of": return new int[] {being, pick(r, 0, 6), 0, 0, 0};
            case "set": return setting(being, r);
            case "turn": case "as": return new int[] {being, pick(r, 0, 5), 0, 0, 0};
            case "eat": return new int[] {being, small, 0, 0, 0};
            case "gives": return new int[] {being, place, 0, 0, 0};
            case "task": return new int[] {place, r.nextBoolean() ? pick(r, 0, 20) : small, pick(r, 1, r.nextBoolean() ? 40 : 99), 0, 0};
            case "taskOf": return new int[] {task, pick(r, 0, 4), 0, 0, 0};
            case "hours": return new int[] {pick(r, 1, r.nextInt(8) == 0 ? 100 : 4), 0, 0, 0, 0};
            case "now": return new int[] {pick(r, 0, 5), 0, 0, 0, 0};
            case "on": return new int[] {place, pick(r, 0, 30), 0, 0, 0};
            case "meet": return new int[] {being, pick(r, 0, 4), 0, 0, 0};
            case "stealth": case "way": case "first": return new int[] {place, pick(r, 0, 15), pick(r, 0, r.nextBoolean() ? 99 : 400), 0, 0};
            case "hang": return new int[] {pick(r, 1, 99), 0, 0, 0, 0};
            case "meal": return new int[] {being, task, 0, 0, 0};
            case "whom": return new int[] {task, 0, 0, 0, 0};
            case "goal": case "kind": return new int[] {being, 0, 0, 0, 0};
            case "fasted": return new int[] {being, place, pick(r, 0, r.nextBoolean() ? 30 : 120), 0, 0};
            case "feed": return new int[] {r.nextInt(), pick(r, 1, 4), 0, 0, 0};
            case "sheet": return new int[] {s, new int[] {0, 8, 16, 16, 64, 64, 32}[r.nextInt(7)], pick(r, 0, 40), 0, 0};
            case "write": return new int[] {s, pick(r, 0, 20), r.nextBoolean() ? 0 : r.nextInt(), r.nextInt(r.nextBoolean() ? 100 : 70000), 0};
            case "copy": return new int[] {s, pick(r, 0, 9), r.nextBoolean() ? s : pick(r, 0, 3), pick(r, 0, 9), pick(r, 0, 9)};
            case "lays": case "map": case "read": return new int[] {s, 0, 0, 0, 0};
            case "count": return new int[] {pick(r, 0, 3), 0, 0, 0, 0};
            case "status": return new int[] {pick(r, -1, 6), 0, 0, 0, 0};
            default:
                Arrays.fill(a, place);
                return a;
        }
    }

    private static int[] setting(int being, Random r) {
        int what = pick(r, 1, 4);
        int most = what <= 2 ? 15 : what == 3 ? 99 : 12;
        return new int[] {being, what, pick(r, 0, most), 0, 0};
    }

    private static void text(int run, Random r, SupperLight x, Model model) {
        String text = r.nextInt(3) == 0 ? jumble(r) : items(r);
        if (r.nextInt(4) == 0 && !text.isEmpty()) {
            text = spoil(text, r);
        }
        due.is("run " + run + ": wipe", x.wipe(), model.call("wipe", 0, 0, 0, 0, 0));
        for (int i = 0; i < text.length(); i += 4) {
            int n = Math.min(4, text.length() - i);
            int bytes = r.nextInt();
            for (int k = 0; k < n; k++) {
                bytes = bytes << 8 | text.charAt(i + k);
            }
            due.is("run " + run + ": feed", x.feed(bytes, n), model.call("feed", bytes, n, 0, 0, 0));
            calls++;
        }
        calls += 2;
        due.is("run " + run + ": night '" + text + "'", x.night(), model.call("night", 0, 0, 0, 0, 0));
        whole(run, "night '" + text + "'", x, model);
    }

    private static String jumble(Random r) {
        StringBuilder b = new StringBuilder();
        for (int i = r.nextInt(8); i >= 0; i--) {
            b.append(WORDS[r.nextInt(WORDS.length)]).append(r.nextInt(5) == 0 ? "" : " ");
        }
        return b.toString();
    }

    private static String items(Random r) {
        List<String> items = new ArrayList<>();
        for (int i = r.nextInt(4); i >= 0; i--) {
            items.add(item(r));
        }
        return String.join(r.nextBoolean() ? ";" : " ; ", items);
    }

    private static String item(Random r) {
        switch (r.nextInt(5)) {
            case 0: return "bowl " + r.nextInt(16) + " " + r.nextInt(100);
            case 1: return "task at " + r.nextInt(16) + " hour " + r.nextInt(100) + " need " + (1 + r.nextInt(99));
            case 2: return "eat " + r.nextInt(r.nextBoolean() ? 3 : 10) + " " + r.nextInt(100);
            default:
                return WORDS[r.nextInt(6)] + " at " + r.nextInt(16)
                    + (r.nextBoolean() ? " goes " + r.nextInt(16) : "")
                    + (r.nextBoolean() ? " meal " + r.nextInt(100) : "")
                    + (r.nextBoolean() ? "fasts" + r.nextInt(30) : "");
        }
    }

    private static String spoil(String text, Random r) {
        int at = r.nextInt(text.length());
        char sign = "az09; \tA{/:`~".charAt(r.nextInt(13));
        switch (r.nextInt(4)) {
            case 0: return text.substring(0, at);
            case 1: return text.substring(0, at) + sign + text.substring(at);
            case 2: return text.substring(0, at) + (char) r.nextInt(256) + text.substring(at + 1);
            default: return text.substring(0, at) + text.substring(at + 1);
        }
    }
}
