import java.lang.reflect.Method;
import java.util.ArrayList;
import java.util.Arrays;
import java.util.HashMap;
import java.util.List;
import java.util.Map;
import java.util.Set;

/**
 * A run of calls on a new object, with the answers that are due: "bowl 3 99 = 0", "3x hours 100", "seen 0 = {0 2}",
 * and "tape bowl 1 2|" for the feeds of a text up to the stroke. Each call goes to the class and to the model. A call
 * that only asks, or that answers a finding, must leave all as if it hadn't been.
 */
final class Script {
    private static final int CALLS_MOST = 512;
    private static final List<String> FINDINGS =
        List.of("BEYOND", "FULL", "KIND", "NONE", "STATE", "MISSING", "SIZE");
    private static final Set<String> ASKING = Set.of("light", "brightest", "lit", "of", "as", "gives", "seen", "taskOf",
        "now", "on", "dark", "out", "meet", "stealth", "way", "first", "hang", "meal", "needed", "whom", "goal", "kind",
        "fasted", "read", "count", "status");
    private static final Map<String, Method> FACE = new HashMap<>();

    static {
        for (Method m : SupperLight.class.getMethods()) {
            if (m.getDeclaringClass() == SupperLight.class) {
                FACE.put(m.getName(), m);
            }
        }
    }

    private static final class Call {
        final String name;
        final long[] given;
        String want = "";

        Call(String name, long... given) {
            this.name = name;
            this.given = given;
        }

        @Override
        public String toString() {
            return name + Arrays.toString(given);
        }
    }

    private final List<Call> calls = new ArrayList<>();
    private final Due due;
    private final String title;

    Script(String lines, Due due, String title) {
        this.due = due;
        this.title = title;
        for (String line : lines.split("\n")) {
            String s = line.strip();
            if (s.startsWith("tape ")) {
                addText(s.substring(5, s.lastIndexOf('|')));
            } else if (!s.isEmpty()) {
                for (String call : s.split(",")) {
                    addCalls(call.strip());
                }
            }
        }
    }

    /** A byte that no source line should hold stands as \ and three octal digits. */
    private void addText(String text) {
        for (int i = 0; i < text.length(); i++) {
            boolean coded = text.charAt(i) == '\\';
            calls.add(new Call("feed", coded ? Integer.parseInt(text.substring(i + 1, i + 4), 8) : text.charAt(i), 1));
            i += coded ? 3 : 0;
        }
    }

    private void addCalls(String text) {
        String[] sides = text.split("=");
        String[] words = sides[0].strip().split(" +");
        boolean repeats = words[0].matches("\\d+x");
        int times = repeats ? Integer.parseInt(words[0].substring(0, words[0].length() - 1)) : 1;
        int name = repeats ? 1 : 0;
        long[] given = new long[words.length - name - 1];
        for (int i = 0; i < given.length; i++) {
            given[i] = number(words[name + 1 + i]);
        }
        Call call = new Call(words[name], given);
        if (!FACE.containsKey(call.name) || FACE.get(call.name).getParameterCount() != given.length) {
            throw new IllegalStateException("no such call: " + text);
        }
        call.want = sides.length > 1 ? sides[1].strip() : "";
        for (int i = 0; i < times; i++) {
            calls.add(call);
        }
    }

    private static long number(String word) {
        switch (word) {
            case "MIN": return Integer.MIN_VALUE;
            case "MAX": return Integer.MAX_VALUE;
            case "LMIN": return Long.MIN_VALUE;
            case "LMAX": return Long.MAX_VALUE;
            default: return word.startsWith("0x") ? Long.parseUnsignedLong(word.substring(2), 16) : Long.parseLong(word);
        }
    }

    private static long answer(String want) {
        if (want.startsWith("{")) {
            long set = 0;
            for (String bit : want.substring(1, want.length() - 1).strip().split(" +")) {
                set |= bit.isEmpty() ? 0 : 1L << Integer.parseInt(bit);
            }
            return set;
        }
        return FINDINGS.contains(want) ? -1000000001L - FINDINGS.indexOf(want) : number(want);
    }

    void runAll() {
        SupperLight x = new SupperLight();
        Model model = new Model();
        for (int i = 0; i < calls.size(); i++) {
            Call call = calls.get(i);
            long got = ask(x, call);
            String where = title + ", call " + i + " " + call;
            due.is(where + " by the model", got, askModel(model, call));
            if (!call.want.isEmpty()) {
                due.is(where, got, answer(call.want));
                leavesAll(i, got, where);
            }
        }
        due.is(title + " is not too long", calls.size() <= CALLS_MOST ? 1 : 0, 1);
    }

    private void leavesAll(int i, long got, String where) {
        String name = calls.get(i).name;
        boolean fails = FINDINGS.contains(calls.get(i).want) || !name.equals("write") && got < -1000000000;
        if (fails || ASKING.contains(name)) {
            due.same(where + " changes nothing", examined(i, calls.get(i)), examined(i, null));
        } else if (name.equals("night") && got < 0) {
            due.same(where + " changes nothing but the tape", examined(i, calls.get(i)), examined(i, new Call("wipe")));
        }
        if (fails || ASKING.contains(name)) {
            int[] before = statusAfter(i, null);
            int[] after = statusAfter(i, calls.get(i));
            for (int which = -1; which < 7; which++) {
                boolean counts = fails && (which < 0 || got == -1000000001L - which);
                due.is(where + " status " + which, after[which + 1], before[which + 1] + (counts ? 1 : 0));
            }
        }
    }

    private SupperLight replayed(int until, Call last) {
        SupperLight x = new SupperLight();
        for (int i = 0; i < until; i++) {
            ask(x, calls.get(i));
        }
        if (last != null) {
            ask(x, last);
        }
        return x;
    }

    private int[] statusAfter(int until, Call last) {
        SupperLight x = replayed(until, last);
        int[] told = new int[8];
        for (int which = -1; which < 7; which++) {
            told[which + 1] = x.status(which);
        }
        return told;
    }

    /** All that calls can tell of an object but its status; it is used up by that. */
    private String examined(int until, Call last) {
        SupperLight x = replayed(until, last);
        List<Long> told = new ArrayList<>();
        town(x, told);
        for (int s = 0; s < 4; s++) {
            sheet(x, s, told);
        }
        told.add(ask(x, new Call("night")));
        town(x, told);
        told.add(ask(x, new Call("undo")));
        town(x, told);
        due.is(title + " leaves calls for the exam", until + 1 + told.size() <= CALLS_MOST ? 1 : 0, 1);
        return told.toString();
    }

    private static void town(SupperLight x, List<Long> told) {
        told.add(ask(x, new Call("now", 0)));
        for (int what = 0; what < 3; what++) {
            told.add(ask(x, new Call("count", what)));
        }
        long beings = told.get(told.size() - 3);
        long tasks = told.get(told.size() - 2);
        for (int i = 0; i < beings * 5; i++) {
            told.add(ask(x, new Call("of", i / 5, i % 5)));
        }
        for (int i = 0; i < tasks * 3; i++) {
            told.add(ask(x, new Call("taskOf", i / 3, i % 3)));
        }
        for (int place = 0; place < 16; place++) {
            told.add(ask(x, new Call("light", place)));
        }
    }

    /** The first number is written twice, to tell how many bits there are. */
    private static void sheet(SupperLight x, int s, List<Long> told) {
        long was = ask(x, new Call("write", s, 0, 0x123456789abcdef0L));
        told.add(was);
        for (int i = 0; i < 40 && was != Due.BEYOND && was != Due.MISSING; i++) {
            was = ask(x, new Call("write", s, i, 0));
            told.add(was);
        }
    }

    private static long ask(SupperLight x, Call call) {
        Method m = FACE.get(call.name);
        Object[] given = new Object[call.given.length];
        for (int i = 0; i < given.length; i++) {
            given[i] = m.getParameterTypes()[i] == long.class ? (Object) call.given[i] : (Object) (int) call.given[i];
        }
        try {
            return ((Number) m.invoke(x, given)).longValue();
        } catch (ReflectiveOperationException e) {
            throw new IllegalStateException(call + " threw", e);
        }
    }

    private static long askModel(Model model, Call call) {
        if (call.name.equals("write")) {
            return model.write((int) call.given[0], (int) call.given[1], call.given[2]);
        }
        int[] a = new int[5];
        for (int i = 0; i < call.given.length; i++) {
            a[i] = (int) call.given[i];
        }
        return model.call(call.name, a[0], a[1], a[2], a[3], a[4]);
    }
}
