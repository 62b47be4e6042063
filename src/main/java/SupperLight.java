import java.util.Arrays;

/** A town without a sun, lit by what its beings ate and by bowls that fade; DOC.md has the promises. */
public final class SupperLight {
    private static final int BEYOND = -1000000001;
    private static final int FULL = -1000000002;
    private static final int KIND = -1000000003;
    private static final int NONE = -1000000004;
    private static final int STATE = -1000000005;
    private static final int MISSING = -1000000006;
    private static final int SIZE = -1000000007;
    private static final int FINDINGS = 7;

    private static final int SIDE = 4;
    private static final int PLACES = 16;
    private static final int BEINGS_MOST = 10;
    private static final int TASKS_MOST = 8;
    private static final int TAPE_MOST = 120;
    private static final int SHEETS = 4;
    private static final int SHEET_MOST = 40;
    private static final int BOWL_MOST = 99;
    private static final int MEAL_MOST = 99;
    private static final int MEAL_FIRST = 20;
    private static final int FASTS_MOST = 999;
    private static final int FASTED_MOST = 99;
    private static final int TASK_HOUR_MOST = 99;
    private static final int NEED_MOST = 99;
    private static final int HOUR_MOST = 9999;
    private static final int ON_MOST = 100;
    private static final int LIGHT_MOST = 9999;
    private static final int NUMBER_MOST = 999;
    private static final int FEED_MOST = 4;

    /** Stands in place of the kind of a being that isn't there: it neither shines nor sings. */
    private static final int NOBODY = -1;
    private static final int PERSON = 0;
    private static final int SINGER = 1;
    private static final int THIEF = 2;
    private static final int HERD = 3;
    private static final int CHOIR = 4;
    private static final int FASTER = 5;
    private static final int KINDS = 6;
    /** The kind right above each kind. */
    private static final int[] ABOVE = {NOBODY, PERSON, PERSON, PERSON, SINGER, THIEF};
    /** From so many hours on a thief is dark. */
    private static final int THIEF_DARK = 6;

    private static final int BY_BOWL = 0;
    private static final int BY_GOAL = 1;
    private static final int BY_KIND = 2;

    /** Words of the text by their codes; those of the kinds' names are the kinds. */
    private static final int WORD_AT = 6;
    private static final int WORD_GOES = 7;
    private static final int WORD_MEAL = 8;
    private static final int WORD_FASTS = 9;
    private static final int WORD_BOWL = 10;
    private static final int WORD_TASK = 11;
    private static final int WORD_HOUR = 12;
    private static final int WORD_NEED = 13;
    private static final int WORD_EAT = 14;
    private static final int WORDS = 15;
    private static final int TOKEN_NUMBER = 15;
    private static final int TOKEN_SIGN = 16;
    private static final int TOKEN_END = 17;
    /** Stands nowhere: another word, or a byte that begins no token. */
    private static final int TOKEN_NOT = 18;

    private final World world;
    private final World kept;
    /** Where a change is tried out that must leave the world as it is. */
    private final World trial;
    private boolean keeps;
    private final Glow glow;
    private final Tape tape;
    private final NightReader nightReader;
    private final Sheet[] sheets;
    private final LightReader lightReader;
    private final Ways ways;
    /** Light of all places, filled anew by each call that needs it. */
    private final int[] lights;
    private final int[] findings;

    public SupperLight() {
        world = new World();
        kept = new World();
        trial = new World();
        keeps = false;
        glow = new Glow();
        tape = new Tape();
        nightReader = new NightReader();
        sheets = new Sheet[SHEETS];
        for (int s = 0; s < SHEETS; s++) {
            sheets[s] = new Sheet();
        }
        lightReader = new LightReader();
        ways = new Ways();
        lights = new int[PLACES];
        findings = new int[FINDINGS];
    }

    // ---- the town

    public int bowl(int place, int v) {
        if (!isPlace(place) || !within(v, 0, BOWL_MOST)) {
            return found(BEYOND);
        }
        int was = world.bowls[place];
        world.bowls[place] = v;
        return was;
    }

    public int light(int place) {
        return isPlace(place) ? lightOn(place, 0) : found(BEYOND);
    }

    public int brightest() {
        lightAll();
        int best = 0;
        for (int place = 1; place < PLACES; place++) {
            if (lights[place] > lights[best]) {
                best = place;
            }
        }
        return best;
    }

    public int lit(int v) {
        if (!within(v, 0, LIGHT_MOST)) {
            return found(BEYOND);
        }
        lightAll();
        int set = 0;
        for (int place = 0; place < PLACES; place++) {
            if (lights[place] >= v) {
                set |= 1 << place;
            }
        }
        return set;
    }

    // ---- beings

    public int being(int kind, int place) {
        if (!isKind(kind) || !isPlace(place)) {
            return found(BEYOND);
        }
        if (world.beings >= BEINGS_MOST) {
            return found(FULL);
        }
        return world.addBeing(kind, place);
    }

    public int of(int being, int what) {
        if (!world.hasBeing(being)) {
            return found(BEYOND);
        }
        switch (what) {
            case 0: return world.kinds[being];
            case 1: return world.ats[being];
            case 2: return world.goals[being];
            case 3: return world.meals[being];
            case 4: return world.fasts[being];
            case 5: return shinesNow(being);
            case 6: return stepsBetween(world.ats[being], world.goals[being]);
            default: return found(BEYOND);
        }
    }

    public int set(int being, int what, int v) {
        if (!world.hasBeing(being) || !within(what, 1, 4) || !within(v, 0, mostOf(what))) {
            return found(BEYOND);
        }
        int[] row = rowOf(what);
        int was = row[being];
        row[being] = v;
        return was;
    }

    public int turn(int being, int kind) {
        if (!world.hasBeing(being) || !isKind(kind)) {
            return found(BEYOND);
        }
        int was = world.kinds[being];
        world.kinds[being] = kind;
        return was;
    }

    public int as(int being, int kind) {
        if (!world.hasBeing(being) || !isKind(kind)) {
            return found(BEYOND);
        }
        if (!isUnder(world.kinds[being], kind)) {
            return found(KIND);
        }
        return world.meals[being];
    }

    public int eat(int being, int v) {
        if (!world.hasBeing(being) || !within(v, 0, MEAL_MOST)) {
            return found(BEYOND);
        }
        world.feedBeing(being, v);
        return shinesNow(being);
    }

    public int gives(int being, int place) {
        if (!world.hasBeing(being) || !isPlace(place)) {
            return found(BEYOND);
        }
        glow.settleOn(world, 0);
        return glow.givesTo(being, place);
    }

    public int seen(int place) {
        if (!isPlace(place)) {
            return found(BEYOND);
        }
        glow.settleOn(world, 0);
        int set = 0;
        for (int b = 0; b < world.beings; b++) {
            if (glow.givesTo(b, place) > 0) {
                set |= 1 << b;
            }
        }
        return set;
    }

    // ---- tasks, hours

    public int task(int place, int hour, int need) {
        if (!isPlace(place) || !within(hour, 0, TASK_HOUR_MOST) || !within(need, 1, NEED_MOST)) {
            return found(BEYOND);
        }
        if (world.tasks >= TASKS_MOST) {
            return found(FULL);
        }
        return world.addTask(place, hour, need);
    }

    public int taskOf(int task, int what) {
        if (!world.hasTask(task)) {
            return found(BEYOND);
        }
        switch (what) {
            case 0: return world.taskPlaces[task];
            case 1: return world.taskHours[task];
            case 2: return world.taskNeeds[task];
            case 3: return lightOn(world.taskPlaces[task], 0) < world.taskNeeds[task] ? 1 : 0;
            case 4: return isDone(world, task) ? 1 : 0;
            default: return found(BEYOND);
        }
    }

    public int hours(int n) {
        if (!within(n, 1, ON_MOST)) {
            return found(BEYOND);
        }
        if (world.hour + n > HOUR_MOST) {
            return found(STATE);
        }
        world.passHours(n);
        return allLight();
    }

    public int now(int what) {
        switch (what) {
            case 0: return world.hour;
            case 1: return allShine();
            case 2: return sumOf(world.bowls, PLACES);
            case 3: return allLight();
            case 4: return world.arrivedSet();
            case 5: return doneSet(world);
            default: return found(BEYOND);
        }
    }

    // ---- on

    public int on(int place, int n) {
        if (!isPlace(place) || !within(n, 0, ON_MOST)) {
            return found(BEYOND);
        }
        return lightOn(place, n);
    }

    public int dark() {
        int first = -1;
        for (int t = 0; t < world.tasks; t++) {
            boolean fails = world.comes(t) && !isDone(world, t);
            if (fails && (first < 0 || world.taskHours[t] < world.taskHours[first])) {
                first = t;
            }
        }
        return first < 0 ? found(NONE) : first;
    }

    public int out() {
        for (int n = 0; n <= ON_MOST; n++) {
            glow.settleOn(world, n);
            if (glow.isOut()) {
                return n;
            }
        }
        return found(NONE);
    }

    public int meet(int one, int other) {
        if (!world.hasBeing(one) || !world.hasBeing(other) || one == other) {
            return found(BEYOND);
        }
        for (int n = 0; n <= ON_MOST; n++) {
            if (world.standsOn(one, n) == world.standsOn(other, n)) {
                return n;
            }
        }
        return found(NONE);
    }

    // ---- ways

    public int stealth(int from, int to) {
        if (!isPlace(from) || !isPlace(to)) {
            return found(BEYOND);
        }
        lightAll();
        return ways.leastGlare(lights, from, to);
    }

    public int way(int from, int to, int v) {
        if (!isPlace(from) || !isPlace(to) || !within(v, 0, LIGHT_MOST)) {
            return found(BEYOND);
        }
        lightAll();
        ways.spreadFrom(lights, to, v);
        return ways.steps[from] < 0 ? found(NONE) : ways.steps[from];
    }

    public int first(int from, int to, int v) {
        if (!isPlace(from) || !isPlace(to) || !within(v, 0, LIGHT_MOST)) {
            return found(BEYOND);
        }
        lightAll();
        ways.spreadFrom(lights, to, v);
        int next = ways.nextFrom(from);
        return next < 0 ? found(NONE) : next;
    }

    // ---- what to hang, what to eat

    public int hang(int v) {
        return within(v, 1, BOWL_MOST) ? bestChoice(BY_BOWL, v, PLACES) : found(BEYOND);
    }

    public int meal(int being, int task) {
        if (!world.hasBeing(being) || !world.hasTask(task)) {
            return found(BEYOND);
        }
        trial.becomeAs(world);
        for (int v = 0; v <= MEAL_MOST; v++) {
            trial.feedBeing(being, v);
            if (isDone(trial, task)) {
                return v;
            }
        }
        return found(NONE);
    }

    public int needed() {
        int best = -1;
        int least = Integer.bitCount(doneSet(world));
        for (int b = 0; b < world.beings; b++) {
            tryWithout(b);
            int done = Integer.bitCount(doneSet(trial));
            if (done < least) {
                least = done;
                best = b;
            }
        }
        return best < 0 ? found(NONE) : best;
    }

    public int whom(int task) {
        if (!world.hasTask(task)) {
            return found(BEYOND);
        }
        int set = 0;
        if (isDone(world, task)) {
            for (int b = 0; b < world.beings; b++) {
                tryWithout(b);
                if (!isDone(trial, task)) {
                    set |= 1 << b;
                }
            }
        }
        return set;
    }

    public int goal(int being) {
        return world.hasBeing(being) ? bestChoice(BY_GOAL, being, PLACES) : found(BEYOND);
    }

    public int kind(int being) {
        return world.hasBeing(being) ? bestChoice(BY_KIND, being, KINDS) : found(BEYOND);
    }

    public int fasted(int being, int place, int v) {
        if (!world.hasBeing(being) || !isPlace(place)) {
            return found(BEYOND);
        }
        trial.becomeAs(world);
        for (int f = 0; f <= FASTED_MOST; f++) {
            trial.fasts[being] = f;
            glow.settleOn(trial, 0);
            if (glow.lightOf(place) == v) {
                return f;
            }
        }
        return found(NONE);
    }

    // ---- the text

    public int feed(int bytes, int n) {
        if (!within(n, 1, FEED_MOST)) {
            return found(BEYOND);
        }
        if (tape.size + n > TAPE_MOST) {
            return found(FULL);
        }
        tape.putLowest(bytes, n);
        return tape.size;
    }

    public int wipe() {
        int had = tape.size;
        tape.size = 0;
        return had;
    }

    public int night() {
        int items = nightReader.readAll(tape, world);
        tape.size = 0;
        if (items > 0) {
            world.becomeAs(nightReader.draft);
            return items;
        }
        return -1 - nightReader.faultPlace();
    }

    // ---- sheets

    public int sheet(int s, int bits, int n) {
        if (!isSheet(s) || bits != 0 && bits != 8 && bits != 16 && bits != 64) {
            return found(BEYOND);
        }
        if (n < 0) {
            return found(SIZE);
        }
        if (n > SHEET_MOST) {
            return found(BEYOND);
        }
        sheets[s].layOut(bits, n);
        return sheets[s].size;
    }

    public long write(int s, int i, long v) {
        if (!isSheet(s)) {
            return found(BEYOND);
        }
        if (sheets[s].isMissing()) {
            return found(MISSING);
        }
        if (!within(i, 0, sheets[s].size - 1)) {
            return found(BEYOND);
        }
        long was = sheets[s].numbers[i];
        sheets[s].put(i, v);
        return was;
    }

    public int copy(int s, int from, int t, int to, int n) {
        if (!isSheet(s) || !isSheet(t)) {
            return found(BEYOND);
        }
        Sheet source = sheets[s];
        Sheet target = sheets[t];
        if (source.isMissing() || target.isMissing()) {
            return found(MISSING);
        }
        if (source.bits != target.bits) {
            return found(KIND);
        }
        if (!source.hasSpan(from, n) || !target.hasSpan(to, n)) {
            return found(BEYOND);
        }
        System.arraycopy(source.numbers, from, target.numbers, to, n);
        return n;
    }

    public int lays(int s) {
        if (!isSheet(s)) {
            return found(BEYOND);
        }
        Sheet told = sheets[s];
        if (told.isMissing()) {
            return found(MISSING);
        }
        int came = 0;
        for (int place = 0; place < told.places(); place++) {
            long v = told.numbers[place];
            if (v >= 0 && v <= BOWL_MOST) {
                world.bowls[place] = (int) v;
                came++;
            }
        }
        return came;
    }

    public int map(int s) {
        if (!isSheet(s)) {
            return found(BEYOND);
        }
        Sheet drawn = sheets[s];
        if (drawn.isMissing()) {
            return found(MISSING);
        }
        lightAll();
        for (int place = 0; place < drawn.places(); place++) {
            drawn.put(place, lights[place]);
        }
        return drawn.places();
    }

    public int read(int s) {
        if (!isSheet(s)) {
            return found(BEYOND);
        }
        if (sheets[s].isMissing()) {
            return found(MISSING);
        }
        glow.settleOn(world, 0);
        return lightReader.countSets(glow, sheets[s]);
    }

    // ---- images

    public int image() {
        kept.becomeAs(world);
        keeps = true;
        return 1;
    }

    public int undo() {
        if (!keeps) {
            return found(NONE);
        }
        world.becomeAs(kept);
        return world.beings;
    }

    public int tear() {
        int were = keeps ? 1 : 0;
        keeps = false;
        return were;
    }

    public int count(int what) {
        switch (what) {
            case 0: return world.beings;
            case 1: return world.tasks;
            case 2: return tape.size;
            case 3: return sumOf(world.meals, world.beings);
            default: return found(BEYOND);
        }
    }

    public int status(int which) {
        if (!within(which, -1, FINDINGS - 1)) {
            return found(BEYOND);
        }
        if (which >= 0) {
            return findings[which];
        }
        return sumOf(findings, FINDINGS);
    }

    // ---- what the calls share

    private int found(int finding) {
        int which = BEYOND - finding;
        if (within(which, 0, FINDINGS - 1)) {
            findings[which]++;
        }
        return finding;
    }

    private int mostOf(int what) {
        switch (what) {
            case 3: return MEAL_MOST;
            case 4: return FASTS_MOST;
            default: return PLACES - 1;
        }
    }

    private int[] rowOf(int what) {
        switch (what) {
            case 1: return world.ats;
            case 2: return world.goals;
            case 3: return world.meals;
            default: return world.fasts;
        }
    }

    private int lightOn(int place, int n) {
        glow.settleOn(world, n);
        return glow.lightOf(place);
    }

    private void lightAll() {
        glow.settleOn(world, 0);
        for (int place = 0; place < PLACES; place++) {
            lights[place] = glow.lightOf(place);
        }
    }

    private int allLight() {
        lightAll();
        return sumOf(lights, PLACES);
    }

    private int shinesNow(int being) {
        glow.settleOn(world, 0);
        return glow.shines[being];
    }

    private int allShine() {
        glow.settleOn(world, 0);
        return sumOf(glow.shines, world.beings);
    }

    private boolean isDone(World in, int task) {
        if (!in.comes(task)) {
            return false;
        }
        glow.settleOn(in, in.taskHours[task] - in.hour);
        return glow.lightOf(in.taskPlaces[task]) >= in.taskNeeds[task];
    }

    private int doneSet(World in) {
        int set = 0;
        for (int t = 0; t < in.tasks; t++) {
            if (isDone(in, t)) {
                set |= 1 << t;
            }
        }
        return set;
    }

    private void tryWithout(int being) {
        trial.becomeAs(world);
        trial.kinds[being] = NOBODY;
    }

    /** The least of so many choices with most tasks done. */
    private int bestChoice(int by, int subject, int choices) {
        int best = 0;
        int most = -1;
        for (int choice = 0; choice < choices; choice++) {
            tryChoice(by, subject, choice);
            int done = Integer.bitCount(doneSet(trial));
            if (done > most) {
                most = done;
                best = choice;
            }
        }
        return best;
    }

    private void tryChoice(int by, int subject, int choice) {
        trial.becomeAs(world);
        switch (by) {
            case BY_BOWL:
                trial.bowls[choice] = Math.min(BOWL_MOST, trial.bowls[choice] + subject);
                break;
            case BY_GOAL:
                trial.goals[subject] = choice;
                break;
            default:
                trial.kinds[subject] = choice;
                break;
        }
    }

    private static boolean within(int v, int least, int most) {
        return v >= least && v <= most;
    }

    private static boolean isPlace(int place) {
        return within(place, 0, PLACES - 1);
    }

    private static boolean isKind(int kind) {
        return within(kind, 0, KINDS - 1);
    }

    private static boolean isSheet(int s) {
        return within(s, 0, SHEETS - 1);
    }

    private static int sumOf(int[] row, int n) {
        int sum = 0;
        for (int i = 0; i < n && i < row.length; i++) {
            sum += row[i];
        }
        return sum;
    }

    private static int stepsBetween(int one, int other) {
        return Math.abs(one / SIDE - other / SIDE) + Math.abs(one % SIDE - other % SIDE);
    }

    /** Whether a kind is the upper one or under it. */
    private static boolean isUnder(int kind, int upper) {
        int k = kind;
        for (int level = 0; level < KINDS && k >= 0 && k < KINDS; level++) {
            if (k == upper) {
                return true;
            }
            k = ABOVE[k];
        }
        return false;
    }

    /** A row or column after so many steps at most towards another one. */
    private static int towards(int from, int to, int steps) {
        return from < to ? Math.min(from + steps, to) : Math.max(from - steps, to);
    }

    /** All that an image keeps; what there is ON n hours is worked out from n alone, without going them. */
    private static final class World {
        int hour = 0;
        final int[] bowls = new int[PLACES];
        int beings = 0;
        final int[] kinds = new int[BEINGS_MOST];
        final int[] ats = new int[BEINGS_MOST];
        final int[] goals = new int[BEINGS_MOST];
        final int[] meals = new int[BEINGS_MOST];
        final int[] fasts = new int[BEINGS_MOST];
        int tasks = 0;
        final int[] taskPlaces = new int[TASKS_MOST];
        final int[] taskHours = new int[TASKS_MOST];
        final int[] taskNeeds = new int[TASKS_MOST];

        void becomeAs(World other) {
            hour = other.hour;
            System.arraycopy(other.bowls, 0, bowls, 0, PLACES);
            beings = other.beings;
            System.arraycopy(other.kinds, 0, kinds, 0, BEINGS_MOST);
            System.arraycopy(other.ats, 0, ats, 0, BEINGS_MOST);
            System.arraycopy(other.goals, 0, goals, 0, BEINGS_MOST);
            System.arraycopy(other.meals, 0, meals, 0, BEINGS_MOST);
            System.arraycopy(other.fasts, 0, fasts, 0, BEINGS_MOST);
            tasks = other.tasks;
            System.arraycopy(other.taskPlaces, 0, taskPlaces, 0, TASKS_MOST);
            System.arraycopy(other.taskHours, 0, taskHours, 0, TASKS_MOST);
            System.arraycopy(other.taskNeeds, 0, taskNeeds, 0, TASKS_MOST);
        }

        boolean hasBeing(int being) {
            return being >= 0 && being < beings;
        }

        boolean hasTask(int task) {
            return task >= 0 && task < tasks;
        }

        /** The new being's number, or -1 if there is no room for one. */
        int addBeing(int kind, int place) {
            if (beings >= BEINGS_MOST) {
                return -1;
            }
            kinds[beings] = kind;
            ats[beings] = place;
            goals[beings] = place;
            meals[beings] = MEAL_FIRST;
            fasts[beings] = 0;
            beings++;
            return beings - 1;
        }

        /** The new task's number, or -1 if there is no room for one. */
        int addTask(int place, int at, int need) {
            if (tasks >= TASKS_MOST) {
                return -1;
            }
            taskPlaces[tasks] = place;
            taskHours[tasks] = at;
            taskNeeds[tasks] = need;
            tasks++;
            return tasks - 1;
        }

        void feedBeing(int being, int v) {
            meals[being] = v;
            fasts[being] = 0;
        }

        void passHours(int n) {
            for (int b = 0; b < beings; b++) {
                ats[b] = standsOn(b, n);
                fasts[b] = fastsOn(b, n);
            }
            for (int place = 0; place < PLACES; place++) {
                bowls[place] = bowlOn(place, n);
            }
            hour += n;
        }

        int bowlOn(int place, int n) {
            return Math.max(0, bowls[place] - n);
        }

        int fastsOn(int being, int n) {
            return Math.min(FASTS_MOST, fasts[being] + n);
        }

        /** Rows are gone first: only steps that are left over go by columns. */
        int standsOn(int being, int n) {
            int fromRow = ats[being] / SIDE;
            int row = towards(fromRow, goals[being] / SIDE, n);
            int left = n - Math.abs(row - fromRow);
            int column = towards(ats[being] % SIDE, goals[being] % SIDE, left);
            return row * SIDE + column;
        }

        boolean comes(int task) {
            return within(taskHours[task] - hour, 0, ON_MOST);
        }

        int arrivedSet() {
            int set = 0;
            for (int b = 0; b < beings; b++) {
                if (ats[b] == goals[b]) {
                    set |= 1 << b;
                }
            }
            return set;
        }
    }

    /** Where all stand, how they shine and what bowls hold in a world ON n hours. */
    private static final class Glow {
        int beings = 0;
        final int[] bowls = new int[PLACES];
        private final int[] stands = new int[BEINGS_MOST];
        final int[] shines = new int[BEINGS_MOST];
        /** How many sing at each place. */
        private final int[] voices = new int[PLACES];

        void settleOn(World world, int n) {
            beings = world.beings;
            for (int place = 0; place < PLACES; place++) {
                bowls[place] = world.bowlOn(place, n);
                voices[place] = 0;
            }
            for (int b = 0; b < beings; b++) {
                stands[b] = world.standsOn(b, n);
                if (isUnder(world.kinds[b], SINGER)) {
                    voices[stands[b]]++;
                }
            }
            for (int b = 0; b < beings; b++) {
                shines[b] = shineOf(world.kinds[b], world.meals[b], world.fastsOn(b, n), voices[stands[b]]);
            }
        }

        /** A singer's own voice is among those at its place. */
        private static int shineOf(int kind, int meal, int fasts, int voices) {
            int plain = Math.max(0, meal - fasts);
            int sung = voices > 1 ? plain + plain / 2 : plain;
            switch (kind) {
                case PERSON: return plain;
                case SINGER: return sung;
                case THIEF: return fasts >= THIEF_DARK ? 0 : plain;
                case HERD: return 3 * plain;
                case CHOIR: return 2 * sung;
                case FASTER: return 0;
                default: return 0;
            }
        }

        /** A shift halves once for each step, cut each time. */
        int givesTo(int being, int place) {
            return shines[being] >> stepsBetween(stands[being], place);
        }

        int lightOf(int place) {
            int light = bowls[place];
            for (int b = 0; b < beings; b++) {
                light += givesTo(b, place);
            }
            return light;
        }

        boolean isOut() {
            return sumOf(bowls, PLACES) == 0 && sumOf(shines, beings) == 0;
        }
    }

    /** Ways over the sixteen places, by how light each is. */
    private static final class Ways {
        /** The fewest steps from each place to where it was spread from; -1 where no way goes. */
        final int[] steps = new int[PLACES];
        private final int[] queue = new int[PLACES];

        void spreadFrom(int[] lights, int to, int v) {
            Arrays.fill(steps, -1);
            if (lights[to] > v) {
                return;
            }
            int queued = 0;
            steps[to] = 0;
            queue[queued++] = to;
            for (int head = 0; head < queued && head < PLACES; head++) {
                int here = queue[head];
                for (int there = 0; there < PLACES; there++) {
                    boolean goes = stepsBetween(here, there) == 1 && lights[there] <= v;
                    if (goes && steps[there] < 0 && queued < PLACES) {
                        steps[there] = steps[here] + 1;
                        queue[queued++] = there;
                    }
                }
            }
        }

        /** The least place that is one step nearer; -1 if there is no way, or none to go. */
        int nextFrom(int from) {
            if (steps[from] <= 0) {
                return -1;
            }
            for (int there = 0; there < PLACES; there++) {
                if (stepsBetween(from, there) == 1 && steps[there] == steps[from] - 1) {
                    return there;
                }
            }
            return -1;
        }

        /** The brightest place of the darkest way is some place: each one's light is tried as the bound. */
        int leastGlare(int[] lights, int from, int to) {
            int ends = Math.max(lights[from], lights[to]);
            int least = ends;
            for (int place = 0; place < PLACES; place++) {
                least = Math.max(least, lights[place]);
            }
            for (int place = 0; place < PLACES; place++) {
                int bound = lights[place];
                if (bound >= ends && bound < least) {
                    spreadFrom(lights, to, bound);
                    least = steps[from] >= 0 ? bound : least;
                }
            }
            return least;
        }
    }

    /** Bytes that wait to be read as a night. */
    private static final class Tape {
        final byte[] bytes = new byte[TAPE_MOST];
        int size = 0;

        void putLowest(int number, int n) {
            for (int i = n - 1; i >= 0 && size < TAPE_MOST; i--) {
                bytes[size] = (byte) (number >> 8 * i);
                size++;
            }
        }
    }

    /** The tokens of a tape, each by its code, its value (of a number) and where it starts. */
    private static final class Tokens {
        final int[] codes = new int[TAPE_MOST + 1];
        final int[] values = new int[TAPE_MOST + 1];
        final int[] starts = new int[TAPE_MOST + 1];
        private int tokens = 0;

        /** Behind the last token stands one that ends all, where the bytes end. */
        void cutOut(Tape tape) {
            tokens = 0;
            int end = 0;
            for (int place = 0; place < tape.size; place++) {
                if (place >= end && tape.bytes[place] != ' ') {
                    end = tokenEnd(tape, place);
                    add(codeOf(tape, place, end), numberOf(tape, place, end), place);
                }
            }
            add(TOKEN_END, 0, tape.size);
        }

        private void add(int code, int value, int start) {
            if (tokens <= TAPE_MOST) {
                codes[tokens] = code;
                values[tokens] = value;
                starts[tokens] = start;
                tokens++;
            }
        }

        private static int tokenEnd(Tape tape, int start) {
            int end = start + 1;
            if (isLetter(tape.bytes[start])) {
                while (end < tape.size && isLetter(tape.bytes[end])) {
                    end++;
                }
            } else if (isDigit(tape.bytes[start])) {
                while (end < tape.size && isDigit(tape.bytes[end])) {
                    end++;
                }
            }
            return end;
        }

        private static int codeOf(Tape tape, int start, int end) {
            if (isDigit(tape.bytes[start])) {
                return TOKEN_NUMBER;
            }
            if (tape.bytes[start] == ';') {
                return TOKEN_SIGN;
            }
            for (int code = 0; code < WORDS; code++) {
                if (isWordAt(tape, start, end, wordOf(code))) {
                    return code;
                }
            }
            return TOKEN_NOT;
        }

        /** A value above what numbers may be stays just above it, however many digits follow. */
        private static int numberOf(Tape tape, int start, int end) {
            int value = 0;
            for (int i = start; i < end && isDigit(tape.bytes[i]); i++) {
                value = Math.min(NUMBER_MOST + 1, value * 10 + (tape.bytes[i] - '0'));
            }
            return value;
        }

        private static boolean isWordAt(Tape tape, int start, int end, String word) {
            if (end - start != word.length()) {
                return false;
            }
            for (int i = 0; i < word.length(); i++) {
                if (tape.bytes[start + i] != word.charAt(i)) {
                    return false;
                }
            }
            return true;
        }

        private static boolean isLetter(byte sign) {
            return sign >= 'a' && sign <= 'z';
        }

        private static boolean isDigit(byte sign) {
            return sign >= '0' && sign <= '9';
        }

        private static String wordOf(int code) {
            switch (code) {
                case PERSON: return "person";
                case SINGER: return "singer";
                case THIEF: return "thief";
                case HERD: return "herd";
                case CHOIR: return "choir";
                case FASTER: return "faster";
                case WORD_AT: return "at";
                case WORD_GOES: return "goes";
                case WORD_MEAL: return "meal";
                case WORD_FASTS: return "fasts";
                case WORD_BOWL: return "bowl";
                case WORD_TASK: return "task";
                case WORD_HOUR: return "hour";
                case WORD_NEED: return "need";
                default: return "eat";
            }
        }
    }

    /** Reads the text of a night; no token is passed that can't stand, so a fault is where the next one starts. */
    private static final class NightReader {
        /** What the world would become; with a fault only some of the items came to it. */
        final World draft = new World();
        private final Tokens text = new Tokens();
        private int next = 0;

        /** How many items came to a draft of the world; 0 with a fault. */
        int readAll(Tape tape, World world) {
            draft.becomeAs(world);
            text.cutOut(tape);
            next = 0;
            for (int items = 1; items <= TAPE_MOST; items++) {
                if (!takeItem()) {
                    return 0;
                }
                if (text.codes[next] == TOKEN_END) {
                    return items;
                }
                if (!take(TOKEN_SIGN)) {
                    return 0;
                }
            }
            return 0;
        }

        int faultPlace() {
            return text.starts[next];
        }

        private boolean takeItem() {
            int code = text.codes[next];
            if (isKind(code)) {
                return takeBeing(code);
            }
            switch (code) {
                case WORD_BOWL: return takeBowl();
                case WORD_TASK: return takeTask();
                case WORD_EAT: return takeEating();
                default: return false;
            }
        }

        private boolean takeBeing(int kind) {
            if (draft.beings >= BEINGS_MOST || !take(kind)) {
                return false;
            }
            int place = takeNumberBehind(WORD_AT, 0, PLACES - 1);
            if (place < 0) {
                return false;
            }
            int being = draft.addBeing(kind, place);
            return takePart(WORD_GOES, draft.goals, being, PLACES - 1)
                && takePart(WORD_MEAL, draft.meals, being, MEAL_MOST)
                && takePart(WORD_FASTS, draft.fasts, being, FASTS_MOST);
        }

        private boolean takeBowl() {
            int place = takeNumberBehind(WORD_BOWL, 0, PLACES - 1);
            if (place < 0) {
                return false;
            }
            int v = takeNumber(0, BOWL_MOST);
            if (v < 0) {
                return false;
            }
            draft.bowls[place] = v;
            return true;
        }

        private boolean takeTask() {
            if (draft.tasks >= TASKS_MOST || !take(WORD_TASK)) {
                return false;
            }
            int place = takeNumberBehind(WORD_AT, 0, PLACES - 1);
            if (place < 0) {
                return false;
            }
            int at = takeNumberBehind(WORD_HOUR, 0, TASK_HOUR_MOST);
            if (at < 0) {
                return false;
            }
            int need = takeNumberBehind(WORD_NEED, 1, NEED_MOST);
            if (need < 0) {
                return false;
            }
            draft.addTask(place, at, need);
            return true;
        }

        private boolean takeEating() {
            int being = takeNumberBehind(WORD_EAT, 0, draft.beings - 1);
            if (being < 0) {
                return false;
            }
            int v = takeNumber(0, MEAL_MOST);
            if (v < 0) {
                return false;
            }
            draft.feedBeing(being, v);
            return true;
        }

        /** False only if the word stands there and its number can't. */
        private boolean takePart(int word, int[] row, int being, int most) {
            if (text.codes[next] != word) {
                return true;
            }
            int v = takeNumberBehind(word, 0, most);
            if (v < 0 || being < 0 || being >= row.length) {
                return false;
            }
            row[being] = v;
            return true;
        }

        /** The number behind a word, or -1 if one of them can't stand there. */
        private int takeNumberBehind(int word, int least, int most) {
            return take(word) ? takeNumber(least, most) : -1;
        }

        private int takeNumber(int least, int most) {
            int value = text.values[next];
            if (!within(value, least, most) || !take(TOKEN_NUMBER)) {
                return -1;
            }
            return value;
        }

        /** The token that ends all is never taken, so there is always a next one. */
        private boolean take(int code) {
            boolean stands = text.codes[next] == code && code != TOKEN_END && next < TAPE_MOST;
            next += stands ? 1 : 0;
            return stands;
        }
    }

    /** A row of numbers; those of 8 and 16 bits are held as the signed numbers that these bits tell. */
    private static final class Sheet {
        int bits = 0;
        int size = 0;
        final long[] numbers = new long[SHEET_MOST];

        boolean isMissing() {
            return bits == 0;
        }

        void layOut(int newBits, int n) {
            bits = newBits;
            size = newBits == 0 ? 0 : n;
            Arrays.fill(numbers, 0L);
        }

        void put(int i, long v) {
            switch (bits) {
                case 8:
                    numbers[i] = (byte) v;
                    break;
                case 16:
                    numbers[i] = (short) v;
                    break;
                default:
                    numbers[i] = v;
                    break;
            }
        }

        boolean hasSpan(int from, int n) {
            return from >= 0 && n >= 0 && n <= size - from;
        }

        /** How many of its numbers stand for a place. */
        int places() {
            return Math.min(size, PLACES);
        }
    }

    /** Counts the sets of beings that would make told lights. */
    private static final class LightReader {
        /** What each told place still lacks with the beings chosen so far. */
        private final long[] lacks = new long[PLACES];
        private final int[] given = new int[BEINGS_MOST * PLACES];

        /** Each set comes from the one before by one being more or less (Gray's order), so sums need no new start. */
        int countSets(Glow glow, Sheet told) {
            int places = told.places();
            for (int place = 0; place < places; place++) {
                lacks[place] = told.numbers[place] - glow.bowls[place];
            }
            for (int b = 0; b < glow.beings; b++) {
                for (int place = 0; place < places; place++) {
                    given[b * PLACES + place] = glow.givesTo(b, place);
                }
            }
            int sets = isJust(places) ? 1 : 0;
            int chosen = 0;
            for (int step = 1; step < 1 << glow.beings; step++) {
                int being = lowestBit(step);
                chosen ^= 1 << being;
                change(being, (chosen >> being & 1) == 1 ? -1 : 1, places);
                sets += isJust(places) ? 1 : 0;
            }
            return sets;
        }

        private boolean isJust(int places) {
            for (int place = 0; place < places; place++) {
                if (lacks[place] != 0) {
                    return false;
                }
            }
            return true;
        }

        private void change(int being, int sign, int places) {
            for (int place = 0; place < places; place++) {
                lacks[place] += sign * given[being * PLACES + place];
            }
        }

        private static int lowestBit(int number) {
            int bit = 0;
            while (bit < BEINGS_MOST - 1 && (number >> bit & 1) == 0) {
                bit++;
            }
            return bit;
        }
    }
}
