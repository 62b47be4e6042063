/** Each promise of the document by hand-made cases: ordinary ones, edges, wrong inputs. */
public final class PromiseTest {
    private static final int LEAST = Integer.MIN_VALUE;
    private static final int MOST = Integer.MAX_VALUE;
    private static final Due due = new Due();

    public static void main(String[] args) {
        newObject();
        bowls();
        lights();
        brightestAndLit();
        beings();
        ofAndSet();
        turnAndAs();
        shining();
        eating();
        givesAndSeen();
        tasks();
        hours();
        walking();
        now();
        on();
        dark();
        out();
        meet();
        stealth();
        wayAndFirst();
        hang();
        meal();
        neededAndWhom();
        withoutASinger();
        goal();
        kind();
        fasted();
        tape();
        night();
        nightFaults();
        nightFull();
        sheets();
        write();
        copy();
        laysAndMap();
        read();
        images();
        count();
        status();
        longestUse();
        due.end();
    }

    private static void newObject() {
        SupperLight x = new SupperLight();
        due.is("1 count(0)", x.count(0), 0);
        due.is("1 count(1)", x.count(1), 0);
        due.is("1 count(2)", x.count(2), 0);
        due.is("1 now(2)", x.now(2), 0);
        due.is("1 now(0)", x.now(0), 0);
        due.is("1 undo", x.undo(), Due.NONE);
        due.is("1 tear", x.tear(), 0);
        for (int s = 0; s < 4; s++) {
            due.is("1 map", x.map(s), Due.MISSING);
        }
        due.is("1 status", x.status(-1), 5);
    }

    private static void bowls() {
        SupperLight x = new SupperLight();
        due.is("2 bowl(3, 99)", x.bowl(3, 99), 0);
        due.is("2 bowl(3, 0)", x.bowl(3, 0), 99);
        due.is("2 bowl(3, 7)", x.bowl(3, 7), 0);
        due.is("2 bowl(15, 1)", x.bowl(15, 1), 0);
        due.is("2 bowl(16, 1)", x.bowl(16, 1), Due.BEYOND);
        due.is("2 bowl(-1, 1)", x.bowl(-1, 1), Due.BEYOND);
        due.is("2 bowl(3, 100)", x.bowl(3, 100), Due.BEYOND);
        due.is("2 bowl(3, -1)", x.bowl(3, -1), Due.BEYOND);
        due.is("2 bowl(LEAST, MOST)", x.bowl(LEAST, MOST), Due.BEYOND);
        due.is("2 bowls stay", x.now(2), 8);
    }

    private static void lights() {
        SupperLight x = new SupperLight();
        x.being(0, 0);
        x.bowl(0, 5);
        x.bowl(1, 3);
        due.is("3 light(0)", x.light(0), 25);
        due.is("3 light(1)", x.light(1), 13);
        due.is("3 light(5)", x.light(5), 5);
        due.is("3 light(6)", x.light(6), 2);
        due.is("3 light(10)", x.light(10), 1);
        due.is("3 light(11)", x.light(11), 0);
        due.is("3 light(16)", x.light(16), Due.BEYOND);
        due.is("3 light(-1)", x.light(-1), Due.BEYOND);
    }

    private static void brightestAndLit() {
        SupperLight x = new SupperLight();
        due.is("4 none", x.brightest(), 0);
        x.bowl(1, 3);
        due.is("4 the second", x.brightest(), 1);
        x.bowl(1, 0);
        x.bowl(9, 4);
        x.bowl(6, 4);
        due.is("4 least of several", x.brightest(), 6);
        x.bowl(15, 5);
        due.is("4 the last", x.brightest(), 15);
        due.is("5 lit(4)", x.lit(4), 1 << 6 | 1 << 9 | 1 << 15);
        due.is("5 lit(5)", x.lit(5), 1 << 15);
        due.is("5 lit(6)", x.lit(6), 0);
        due.is("5 lit(0)", x.lit(0), 65535);
        due.is("5 lit(9999)", x.lit(9999), 0);
        due.is("5 lit(10000)", x.lit(10000), Due.BEYOND);
        due.is("5 lit(-1)", x.lit(-1), Due.BEYOND);
    }

    private static void beings() {
        SupperLight x = new SupperLight();
        due.is("6 being(-1, 0)", x.being(-1, 0), Due.BEYOND);
        due.is("6 being(6, 0)", x.being(6, 0), Due.BEYOND);
        due.is("6 being(0, -1)", x.being(0, -1), Due.BEYOND);
        due.is("6 being(0, 16)", x.being(0, 16), Due.BEYOND);
        for (int b = 0; b < 10; b++) {
            due.is("6 being", x.being(b % 6, b), b);
        }
        due.is("6 an 11th", x.being(0, 0), Due.FULL);
        due.is("6 BEYOND ahead of FULL", x.being(0, 16), Due.BEYOND);
        due.is("6 BEYOND ahead of FULL", x.being(6, 0), Due.BEYOND);
        due.is("6 count", x.count(0), 10);
    }

    private static void ofAndSet() {
        SupperLight x = new SupperLight();
        due.is("7 no being", x.of(0, 0), Due.BEYOND);
        x.being(3, 9);
        int[] first = {3, 9, 9, 20, 0, 60, 0};
        for (int what = 0; what < 7; what++) {
            due.is("7 of(0, " + what + ")", x.of(0, what), first[what]);
        }
        due.is("7 of(0, -1)", x.of(0, -1), Due.BEYOND);
        due.is("7 of(0, 7)", x.of(0, 7), Due.BEYOND);
        due.is("7 of(1, 0)", x.of(1, 0), Due.BEYOND);
        due.is("7 of(-1, 0)", x.of(-1, 0), Due.BEYOND);
        due.is("8 AT", x.set(0, 1, 15), 9);
        due.is("8 GOAL", x.set(0, 2, 0), 9);
        due.is("8 MEAL", x.set(0, 3, 99), 20);
        due.is("8 FASTS", x.set(0, 4, 999), 0);
        due.is("8 AT too much", x.set(0, 1, 16), Due.BEYOND);
        due.is("8 GOAL too much", x.set(0, 2, 16), Due.BEYOND);
        due.is("8 MEAL too much", x.set(0, 3, 100), Due.BEYOND);
        due.is("8 FASTS too much", x.set(0, 4, 1000), Due.BEYOND);
        for (int what = 1; what <= 4; what++) {
            due.is("8 too little", x.set(0, what, -1), Due.BEYOND);
        }
        due.is("8 what 0", x.set(0, 0, 1), Due.BEYOND);
        due.is("8 what 5", x.set(0, 5, 1), Due.BEYOND);
        due.is("8 no such being", x.set(1, 1, 1), Due.BEYOND);
        due.is("8 no such being", x.set(-1, 1, 1), Due.BEYOND);
        int[] then = {3, 15, 0, 99, 999, 0, 6};
        for (int what = 0; what < 7; what++) {
            due.is("8 of(0, " + what + ")", x.of(0, what), then[what]);
        }
    }

    private static void turnAndAs() {
        SupperLight x = new SupperLight();
        due.is("9 no being", x.turn(0, 0), Due.BEYOND);
        due.is("10 no being", x.as(0, 0), Due.BEYOND);
        x.being(0, 0);
        x.set(0, 3, 33);
        boolean[][] under = {
            {true, false, false, false, false, false},
            {true, true, false, false, false, false},
            {true, false, true, false, false, false},
            {true, false, false, true, false, false},
            {true, true, false, false, true, false},
            {true, false, true, false, false, true}};
        int was = 0;
        for (int kind = 0; kind < 6; kind++) {
            due.is("9 turn", x.turn(0, kind), was);
            was = kind;
            for (int upper = 0; upper < 6; upper++) {
                due.is("10 " + kind + " as " + upper, x.as(0, upper), under[kind][upper] ? 33 : Due.KIND);
            }
        }
        due.is("9 turn(0, 6)", x.turn(0, 6), Due.BEYOND);
        due.is("9 turn(0, -1)", x.turn(0, -1), Due.BEYOND);
        due.is("9 turn(1, 0)", x.turn(1, 0), Due.BEYOND);
        due.is("9 to the same", x.turn(0, 5), 5);
        due.is("10 as(0, 6)", x.as(0, 6), Due.BEYOND);
        due.is("10 as(0, -1)", x.as(0, -1), Due.BEYOND);
        due.is("10 as(-1, 0)", x.as(-1, 0), Due.BEYOND);
    }

    private static void shining() {
        SupperLight x = new SupperLight();
        x.being(0, 2);
        int[] alone = {15, 15, 15, 45, 30, 0};
        x.set(0, 4, 5);
        for (int kind = 0; kind < 6; kind++) {
            x.turn(0, kind);
            due.is("1 shines alone as " + kind, x.of(0, 5), alone[kind]);
        }
        x.being(4, 2);
        x.set(1, 3, 0);
        int[] withChoir = {15, 22, 15, 45, 44, 0};
        for (int kind = 0; kind < 6; kind++) {
            x.turn(0, kind);
            due.is("1 shines by a choir as " + kind, x.of(0, 5), withChoir[kind]);
        }
        x.turn(0, 1);
        x.turn(1, 0);
        due.is("1 a person doesn't sing", x.of(0, 5), 15);
        x.turn(1, 1);
        due.is("1 a singer does", x.of(0, 5), 22);
        x.set(1, 1, 3);
        due.is("1 not elsewhere", x.of(0, 5), 15);
        x.turn(0, 2);
        x.set(0, 4, 6);
        due.is("1 a thief of 6", x.of(0, 5), 0);
        x.turn(0, 0);
        due.is("1 a person of 6", x.of(0, 5), 14);
        x.set(0, 4, 21);
        due.is("1 not below 0", x.of(0, 5), 0);
    }

    private static void eating() {
        SupperLight x = new SupperLight();
        due.is("11 no being", x.eat(0, 5), Due.BEYOND);
        x.being(3, 0);
        x.set(0, 4, 50);
        due.is("11 eat(0, 40)", x.eat(0, 40), 120);
        due.is("11 FASTS", x.of(0, 4), 0);
        due.is("11 MEAL", x.of(0, 3), 40);
        due.is("11 eat(0, 0)", x.eat(0, 0), 0);
        due.is("11 eat(0, 99)", x.eat(0, 99), 297);
        x.set(0, 4, 3);
        due.is("11 eat(0, 100)", x.eat(0, 100), Due.BEYOND);
        due.is("11 eat(0, -1)", x.eat(0, -1), Due.BEYOND);
        due.is("11 eat(1, 1)", x.eat(1, 1), Due.BEYOND);
        due.is("11 nothing changed", x.of(0, 4), 3);
    }

    private static void givesAndSeen() {
        SupperLight x = new SupperLight();
        x.being(0, 0);
        x.being(3, 15);
        x.being(5, 0);
        int[] given = {20, 10, 5, 2, 10, 5, 2, 1, 5, 2, 1, 0, 2, 1, 0, 0};
        for (int place = 0; place < 16; place++) {
            due.is("12 gives(0, " + place + ")", x.gives(0, place), given[place]);
        }
        due.is("12 gives(1, 0)", x.gives(1, 0), 0);
        due.is("12 gives(1, 1)", x.gives(1, 1), 1);
        due.is("12 gives(2, 0)", x.gives(2, 0), 0);
        due.is("12 gives(3, 0)", x.gives(3, 0), Due.BEYOND);
        due.is("12 gives(-1, 0)", x.gives(-1, 0), Due.BEYOND);
        due.is("12 gives(0, 16)", x.gives(0, 16), Due.BEYOND);
        due.is("12 gives(0, -1)", x.gives(0, -1), Due.BEYOND);
        due.is("13 seen(0)", x.seen(0), 1);
        due.is("13 seen(1)", x.seen(1), 3);
        due.is("13 seen(15)", x.seen(15), 2);
        x.set(0, 4, 19);
        due.is("13 seen just now", x.seen(0), 1);
        due.is("13 no longer next to it", x.seen(4), 2);
        due.is("13 seen(16)", x.seen(16), Due.BEYOND);
        due.is("13 seen(-1)", x.seen(-1), Due.BEYOND);
    }

    private static void tasks() {
        SupperLight x = new SupperLight();
        due.is("15 no task", x.taskOf(0, 0), Due.BEYOND);
        due.is("14 place", x.task(16, 0, 1), Due.BEYOND);
        due.is("14 place", x.task(-1, 0, 1), Due.BEYOND);
        due.is("14 hour", x.task(0, 100, 1), Due.BEYOND);
        due.is("14 hour", x.task(0, -1, 1), Due.BEYOND);
        due.is("14 need", x.task(0, 0, 0), Due.BEYOND);
        due.is("14 need", x.task(0, 0, 100), Due.BEYOND);
        x.bowl(7, 12);
        due.is("14 task", x.task(7, 3, 9), 0);
        due.is("14 task", x.task(7, 4, 9), 1);
        due.is("14 task", x.task(15, 99, 99), 2);
        int[][] told = {{7, 3, 9, 0, 1}, {7, 4, 9, 0, 0}, {15, 99, 99, 1, 0}};
        for (int t = 0; t < 3; t++) {
            for (int what = 0; what < 5; what++) {
                due.is("15 taskOf(" + t + ", " + what + ")", x.taskOf(t, what), told[t][what]);
            }
        }
        due.is("15 taskOf(0, 5)", x.taskOf(0, 5), Due.BEYOND);
        due.is("15 taskOf(0, -1)", x.taskOf(0, -1), Due.BEYOND);
        due.is("15 taskOf(3, 0)", x.taskOf(3, 0), Due.BEYOND);
        due.is("15 taskOf(-1, 0)", x.taskOf(-1, 0), Due.BEYOND);
        x.bowl(7, 9);
        due.is("15 just as light as it must be", x.taskOf(0, 3), 0);
        x.bowl(7, 8);
        due.is("15 just too dark", x.taskOf(0, 3), 1);
        x.bowl(7, 12);
        x.hours(4);
        due.is("15 gone by", x.taskOf(0, 4), 0);
        due.is("15 dark now", x.taskOf(1, 3), 1);
        x.bowl(7, 9);
        due.is("15 gone by, though light now", x.taskOf(0, 4), 0);
        due.is("15 right now", x.taskOf(1, 4), 1);
        for (int t = 3; t < 8; t++) {
            due.is("14 task", x.task(0, 0, 1), t);
        }
        due.is("14 a 9th", x.task(0, 0, 1), Due.FULL);
        due.is("14 BEYOND ahead of FULL", x.task(0, 0, 0), Due.BEYOND);
        due.is("14 count", x.count(1), 8);
    }

    private static void hours() {
        SupperLight x = new SupperLight();
        x.being(0, 0);
        x.bowl(5, 3);
        due.is("16 hours(0)", x.hours(0), Due.BEYOND);
        due.is("16 hours(101)", x.hours(101), Due.BEYOND);
        due.is("16 hours(-1)", x.hours(-1), Due.BEYOND);
        due.is("16 hours(2)", x.hours(2), 18 + 9 * 2 + 4 * 3 + 2 * 4 + 1 * 3 + 1);
        due.is("16 bowl", x.bowl(5, 1), 1);
        due.is("16 hours(2)", x.hours(2), 16 + 8 * 2 + 4 * 3 + 2 * 4 + 3);
        due.is("16 bowl not below 0", x.bowl(5, 0), 0);
        for (int i = 0; i < 99; i++) {
            due.is("16 hours(100)", x.hours(100), 0);
        }
        due.is("16 HOUR", x.now(0), 9904);
        due.is("16 FASTS 999 at most", x.of(0, 4), 999);
        due.is("16 hours(96)", x.hours(96), Due.STATE);
        due.is("16 HOUR stays", x.now(0), 9904);
        due.is("16 BEYOND ahead of STATE", x.hours(101), Due.BEYOND);
        due.is("16 hours(95)", x.hours(95), 0);
        due.is("16 HOUR", x.now(0), 9999);
        due.is("16 hours(1)", x.hours(1), Due.STATE);
        x.bowl(2, 99);
        due.is("18 ON beyond the last hour", x.on(2, 100), 0);
        due.is("18 ON beyond the last hour", x.on(2, 98), 1);
    }

    private static void walking() {
        SupperLight x = new SupperLight();
        x.being(0, 3);
        x.set(0, 2, 13);
        int[] way = {7, 11, 15, 14, 13, 13};
        for (int place : way) {
            x.hours(1);
            due.is("16 row first", x.of(0, 1), place);
        }
        x.set(0, 2, 0);
        int[] back = {9, 5, 1, 0, 0};
        for (int place : back) {
            x.hours(1);
            due.is("16 back", x.of(0, 1), place);
        }
        x.set(0, 2, 15);
        x.hours(4);
        due.is("16 four at once", x.of(0, 1), 13);
    }

    private static void now() {
        SupperLight x = new SupperLight();
        x.being(0, 0);
        x.being(3, 0);
        x.being(5, 1);
        x.set(1, 2, 1);
        x.bowl(0, 4);
        x.bowl(15, 6);
        x.task(0, 0, 84);
        x.task(0, 0, 85);
        x.task(15, 1, 5);
        due.is("17 now(0)", x.now(0), 0);
        due.is("17 now(1)", x.now(1), 80);
        due.is("17 now(2)", x.now(2), 10);
        int all = 0;
        for (int place = 0; place < 16; place++) {
            all += x.light(place);
        }
        due.is("17 now(3)", x.now(3), all);
        due.is("17 now(4)", x.now(4), 5);
        due.is("17 now(5)", x.now(5), 5);
        due.is("17 now(6)", x.now(6), Due.BEYOND);
        due.is("17 now(-1)", x.now(-1), Due.BEYOND);
    }

    private static void on() {
        SupperLight x = new SupperLight();
        x.being(0, 0);
        x.set(0, 2, 5);
        x.bowl(5, 2);
        due.is("18 on(5, 0)", x.on(5, 0), 7);
        due.is("18 on(5, 1)", x.on(5, 1), 10);
        due.is("18 on(5, 2)", x.on(5, 2), 18);
        due.is("18 on(5, 100)", x.on(5, 100), 0);
        due.is("18 on(5, 101)", x.on(5, 101), Due.BEYOND);
        due.is("18 on(5, -1)", x.on(5, -1), Due.BEYOND);
        due.is("18 on(16, 0)", x.on(16, 0), Due.BEYOND);
        due.is("18 on(-1, 0)", x.on(-1, 0), Due.BEYOND);
        due.is("18 nothing changes", x.of(0, 1), 0);
        x.turn(0, 1);
        x.being(4, 9);
        x.set(1, 2, 5);
        due.is("18 they sing where they meet", x.on(5, 2), 27 + 54);
        due.is("18 not before", x.on(5, 1), 1 + 9 + 38);
    }

    private static void dark() {
        SupperLight x = new SupperLight();
        due.is("19 no task", x.dark(), Due.NONE);
        SupperLight y = new SupperLight();
        for (int t = 0; t < 8; t++) {
            y.task(t, t, 1);
        }
        due.is("19 eight tasks, the first", y.dark(), 0);
        x.bowl(0, 50);
        x.task(0, 20, 31);
        x.task(0, 10, 40);
        x.task(1, 12, 1);
        x.task(1, 12, 1);
        due.is("19 the least hour", x.dark(), 2);
        x.task(1, 0, 1);
        due.is("19 the least hour", x.dark(), 4);
        x.hours(1);
        due.is("19 gone by", x.dark(), 2);
        x.hours(12);
        due.is("19 gone by", x.dark(), 0);
        x.bowl(0, 38);
        due.is("19 light enough", x.dark(), Due.NONE);
    }

    private static void out() {
        SupperLight x = new SupperLight();
        due.is("20 none", x.out(), 0);
        x.being(2, 0);
        due.is("20 a thief", x.out(), 6);
        x.turn(0, 5);
        due.is("20 a faster", x.out(), 0);
        x.turn(0, 4);
        due.is("20 a choir", x.out(), 20);
        x.bowl(9, 21);
        due.is("20 a bowl", x.out(), 21);
        x.eat(0, 99);
        due.is("20 the longest", x.out(), 99);
    }

    private static void meet() {
        SupperLight x = new SupperLight();
        x.being(0, 0);
        x.being(0, 15);
        x.being(0, 0);
        due.is("21 never", x.meet(0, 1), Due.NONE);
        due.is("21 at once", x.meet(0, 2), 0);
        x.set(0, 2, 15);
        due.is("21 in 6", x.meet(0, 1), 6);
        x.set(1, 2, 0);
        due.is("21 they pass one another", x.meet(0, 1), Due.NONE);
        x.set(1, 1, 4);
        x.set(1, 2, 12);
        due.is("21 behind one another", x.meet(0, 1), 3);
        due.is("21 the same", x.meet(1, 1), Due.BEYOND);
        due.is("21 no such one", x.meet(3, 0), Due.BEYOND);
        due.is("21 no such other", x.meet(0, 3), Due.BEYOND);
        due.is("21 below", x.meet(-1, -1), Due.BEYOND);
    }

    /** 0 is hemmed in by 1 and 4; one gate is darker. */
    private static SupperLight hemmed() {
        SupperLight x = new SupperLight();
        x.bowl(1, 30);
        x.bowl(4, 20);
        x.bowl(8, 40);
        return x;
    }

    private static void stealth() {
        SupperLight x = hemmed();
        due.is("22 by the darker gate", x.stealth(0, 15), 20);
        due.is("22 back", x.stealth(15, 0), 20);
        due.is("22 a bright start", x.stealth(8, 15), 40);
        due.is("22 a bright end", x.stealth(15, 8), 40);
        due.is("22 around", x.stealth(2, 12), 0);
        due.is("22 here", x.stealth(8, 8), 40);
        due.is("22 here", x.stealth(5, 5), 0);
        due.is("22 stealth(0, 16)", x.stealth(0, 16), Due.BEYOND);
        due.is("22 stealth(-1, 0)", x.stealth(-1, 0), Due.BEYOND);
        due.is("22 stealth(16, 0)", x.stealth(16, 0), Due.BEYOND);
        due.is("22 stealth(0, -1)", x.stealth(0, -1), Due.BEYOND);
    }

    private static void wayAndFirst() {
        SupperLight x = hemmed();
        due.is("23 none", x.way(0, 15, 19), Due.NONE);
        due.is("23 by 4", x.way(0, 15, 20), 6);
        due.is("23 to 2 by 4", x.way(0, 2, 20), 4);
        due.is("23 to 2 by 1", x.way(0, 2, 30), 2);
        due.is("23 start too bright", x.way(8, 9, 39), Due.NONE);
        due.is("23 end too bright", x.way(9, 8, 39), Due.NONE);
        due.is("23 here", x.way(8, 8, 40), 0);
        due.is("23 here, too bright", x.way(8, 8, 39), Due.NONE);
        due.is("24 none", x.first(0, 15, 19), Due.NONE);
        due.is("24 by 4", x.first(0, 15, 20), 4);
        due.is("24 by 1", x.first(0, 15, 30), 1);
        due.is("24 only the shortest", x.first(5, 7, 0), 6);
        due.is("24 the least of several", x.first(15, 0, 9999), 11);
        due.is("24 here", x.first(5, 5, 9999), Due.NONE);
        due.is("24 place 0", x.first(1, 0, 30), 0);
        due.is("24 through place 0", x.first(1, 4, 30), 0);
        due.is("23 v 0", x.way(2, 12, 0), 5);
        due.is("23 v 0", x.way(2, 13, 0), 4);
        due.is("24 next to it", x.first(14, 15, 0), 15);
        due.is("24 start too bright", x.first(8, 9, 39), Due.NONE);
        int[][] wrong = {{16, 0, 0}, {-1, 0, 0}, {0, 16, 0}, {0, -1, 0}, {0, 0, -1}, {0, 0, 10000}};
        for (int[] w : wrong) {
            due.is("23 wrong", x.way(w[0], w[1], w[2]), Due.BEYOND);
            due.is("24 wrong", x.first(w[0], w[1], w[2]), Due.BEYOND);
        }
        SupperLight y = new SupperLight();
        y.bowl(1, 50);
        y.bowl(5, 40);
        y.bowl(4, 60);
        due.is("22 place 0 is the brightest on no way but its own", y.stealth(0, 2), 50);
        y.bowl(0, 70);
        due.is("22 place 0 is the brightest", y.stealth(0, 2), 70);
        due.is("22 place 0 is the brightest", y.stealth(2, 0), 70);
        due.is("23 v 9999", x.way(0, 15, 9999), 6);
    }

    private static void hang() {
        SupperLight x = new SupperLight();
        due.is("25 no task", x.hang(99), 0);
        x.task(9, 10, 20);
        x.task(9, 0, 1);
        x.task(3, 0, 1);
        due.is("25 two rather than one", x.hang(30), 9);
        due.is("25 of several the least", x.hang(29), 3);
        x.bowl(9, 50);
        due.is("25 what is lit needs none", x.hang(1), 3);
        x.task(5, 40, 60);
        due.is("25 99 at most", x.hang(99), 3);
        x.bowl(3, 1);
        x.bowl(5, 99);
        due.is("25 99 there at most", x.hang(99), 0);
        due.is("25 hang(0)", x.hang(0), Due.BEYOND);
        due.is("25 hang(100)", x.hang(100), Due.BEYOND);
        due.is("25 nothing changes", x.now(2), 150);
    }

    private static void meal() {
        SupperLight x = new SupperLight();
        x.being(0, 0);
        x.set(0, 4, 900);
        x.task(0, 10, 5);
        due.is("26 it fades", x.meal(0, 0), 15);
        x.turn(0, 2);
        due.is("26 a thief can't", x.meal(0, 0), Due.NONE);
        x.turn(0, 3);
        due.is("26 a herd", x.meal(0, 0), 12);
        x.task(0, 99, 1);
        due.is("26 too far", x.meal(0, 1), Due.NONE);
        x.hours(1);
        due.is("26 98 on", x.meal(0, 1), 99);
        x.bowl(0, 99);
        due.is("26 no meal", x.meal(0, 0), 0);
        x.hours(10);
        due.is("26 gone by", x.meal(0, 0), Due.NONE);
        due.is("26 no such being", x.meal(1, 0), Due.BEYOND);
        due.is("26 no such being", x.meal(-1, 0), Due.BEYOND);
        due.is("26 no such task", x.meal(0, 2), Due.BEYOND);
        due.is("26 no such task", x.meal(0, -1), Due.BEYOND);
        due.is("26 nothing changes", x.of(0, 4), 911);
    }

    private static void neededAndWhom() {
        SupperLight x = new SupperLight();
        due.is("27 none", x.needed(), Due.NONE);
        due.is("28 no task", x.whom(0), Due.BEYOND);
        x.being(0, 0);
        x.being(0, 15);
        x.being(0, 15);
        x.task(0, 0, 20);
        due.is("27 one task", x.needed(), 0);
        x.task(15, 0, 40);
        due.is("27 of several the least", x.needed(), 0);
        x.task(15, 0, 30);
        due.is("27 most tasks", x.needed(), 1);
        x.task(15, 0, 41);
        due.is("28 by one", x.whom(0), 1);
        due.is("28 by two", x.whom(1), 6);
        due.is("28 it isn't done", x.whom(3), 0);
        x.bowl(15, 60);
        x.bowl(0, 60);
        due.is("27 none is", x.needed(), Due.NONE);
        due.is("28 none is", x.whom(1), 0);
        for (int b = 3; b < 10; b++) {
            x.being(0, 10);
            x.eat(b, 13);
        }
        due.is("27 ten beings", x.needed(), Due.NONE);
        x.task(10, 0, 99);
        due.is("28 ten beings", x.whom(4), 1023 - 1);
        due.is("28 whom(5)", x.whom(5), Due.BEYOND);
        due.is("27 ten beings", x.needed(), 1);
        due.is("13 ten beings", x.seen(10), 1023);
        due.is("28 whom(8)", x.whom(8), Due.BEYOND);
        due.is("28 whom(-1)", x.whom(-1), Due.BEYOND);
        due.is("28 nothing changes", x.count(0), 10);
    }

    /** Without a singer another one has none to sing with, which counts, though the first gives nothing itself. */
    private static void withoutASinger() {
        SupperLight x = new SupperLight();
        x.being(1, 0);
        x.being(1, 0);
        x.set(1, 3, 0);
        x.task(0, 0, 25);
        due.is("28 without the second voice", x.whom(0), 3);
        x.task(0, 0, 20);
        due.is("27 without the first", x.needed(), 0);
    }

    private static void goal() {
        SupperLight x = new SupperLight();
        due.is("29 no being", x.goal(0), Due.BEYOND);
        x.being(0, 0);
        due.is("29 no task", x.goal(0), 0);
        x.task(15, 6, 14);
        due.is("29 where the task is", x.goal(0), 15);
        x.task(0, 4, 8);
        x.task(4, 4, 8);
        due.is("29 two rather than one", x.goal(0), 0);
        due.is("29 goal(1)", x.goal(1), Due.BEYOND);
        due.is("29 goal(-1)", x.goal(-1), Due.BEYOND);
        due.is("29 nothing changes", x.of(0, 2), 0);
    }

    private static void kind() {
        SupperLight x = new SupperLight();
        due.is("30 no being", x.kind(0), Due.BEYOND);
        x.being(5, 0);
        due.is("30 no task", x.kind(0), 0);
        x.task(0, 0, 60);
        due.is("30 a herd", x.kind(0), 3);
        x.being(1, 0);
        x.task(0, 0, 70);
        x.task(0, 0, 90);
        due.is("30 a choir beside a singer: 60 and 30", x.kind(0), 4);
        x.eat(1, 40);
        due.is("30 a singer will do: 30 and 60", x.kind(0), 1);
        due.is("30 none to sing with: a herd of 120", x.kind(1), 3);
        x.turn(0, 1);
        due.is("30 the least of several", x.kind(1), 1);
        due.is("30 kind(2)", x.kind(2), Due.BEYOND);
        due.is("30 kind(-1)", x.kind(-1), Due.BEYOND);
        due.is("30 nothing changes", x.of(0, 0), 1);
        SupperLight y = new SupperLight();
        y.being(0, 0);
        y.being(4, 0);
        y.task(0, 0, 85);
        due.is("30 a choir sings with a choir", y.kind(0), 1);
        y.eat(0, 18);
        y.task(0, 0, 99);
        due.is("30 twice a singer", y.kind(0), 4);
    }

    private static void fasted() {
        SupperLight x = new SupperLight();
        x.being(0, 0);
        x.set(0, 4, 3);
        x.bowl(1, 2);
        due.is("31 itself", x.fasted(0, 0, 15), 5);
        due.is("31 as few as can be", x.fasted(0, 1, 10), 3);
        due.is("31 none", x.fasted(0, 1, 2), 19);
        due.is("31 0", x.fasted(0, 0, 20), 0);
        due.is("31 too much", x.fasted(0, 0, 21), Due.NONE);
        due.is("31 below 0", x.fasted(0, 0, -1), Due.NONE);
        due.is("31 any v", x.fasted(0, 0, LEAST), Due.NONE);
        due.is("31 any v", x.fasted(0, 0, MOST), Due.NONE);
        x.eat(0, 99);
        due.is("31 99", x.fasted(0, 0, 0), 99);
        x.turn(0, 2);
        due.is("31 a thief", x.fasted(0, 0, 0), 6);
        due.is("31 a thief", x.fasted(0, 0, 93), Due.NONE);
        x.being(0, 0);
        due.is("31 with another", x.fasted(0, 0, 118), 1);
        due.is("31 fasted(2, 0, 0)", x.fasted(2, 0, 0), Due.BEYOND);
        due.is("31 fasted(-1, 0, 0)", x.fasted(-1, 0, 0), Due.BEYOND);
        due.is("31 fasted(0, 16, 0)", x.fasted(0, 16, 0), Due.BEYOND);
        due.is("31 fasted(0, -1, 0)", x.fasted(0, -1, 0), Due.BEYOND);
        due.is("31 nothing changes", x.of(0, 4), 0);
    }

    private static void tape() {
        SupperLight x = new SupperLight();
        due.is("32 feed(0, 0)", x.feed(0, 0), Due.BEYOND);
        due.is("32 feed(0, 5)", x.feed(0, 5), Due.BEYOND);
        due.is("33 wipe", x.wipe(), 0);
        for (int i = 1; i <= 29; i++) {
            due.is("32 feed", x.feed(0x20202020, 4), 4 * i);
        }
        due.is("32 feed", x.feed(0x20202020, 2), 118);
        due.is("32 FULL", x.feed(0x20202020, 3), Due.FULL);
        due.is("32 BEYOND ahead of FULL", x.feed(0, 5), Due.BEYOND);
        due.is("32 the last two", x.feed(0x20202020, 2), 120);
        due.is("32 FULL", x.feed(0x20, 1), Due.FULL);
        due.is("44 count(2)", x.count(2), 120);
        due.is("33 wipe", x.wipe(), 120);
        due.is("33 wipe", x.wipe(), 0);
        x.feed('b' << 24 | 'o' << 16 | 'w' << 8 | 'l', 4);
        x.feed('x' << 24 | '1' << 16 | ' ' << 8 | '2', 3);
        due.is("32 the highest first", x.night(), 1);
        due.is("32 the lowest of it", x.light(1), 2);
    }

    private static void night() {
        SupperLight x = new SupperLight();
        SupperLight y = new SupperLight();
        due.is("34 the first one goes", Due.night(y, "person at 0 goes 15"), 1);
        due.is("34 the first one goes", y.of(0, 2), 15);
        due.is("34 a bowl of 0", Due.night(y, "bowl 0 0;task at 0 hour 0 need 1;eat 0 0"), 3);
        due.is("34 hour 0", y.taskOf(0, 1), 0);
        due.is("34 need 1", y.taskOf(0, 2), 1);
        due.is("34 a person", Due.night(x, "person at 3"), 1);
        due.is("34 its GOAL", x.of(0, 2), 3);
        due.is("34 its MEAL", x.of(0, 3), 20);
        due.is("34 all of it", Due.night(x, " choir  at 15 goes 0 meal 99 fasts 999 "), 1);
        int[] told = {4, 15, 0, 99, 999};
        for (int what = 0; what < 5; what++) {
            due.is("34 of(1, " + what + ")", x.of(1, what), told[what]);
        }
        due.is("34 some of it", Due.night(x, "singer at 1 meal 5;thief at 2 fasts 7;herd at3goes4;faster at 5goes 6fasts 1"), 4);
        due.is("34 meal", x.of(2, 3), 5);
        due.is("34 fasts", x.of(3, 4), 7);
        due.is("34 goes", x.of(4, 2), 4);
        due.is("34 fasts", x.of(5, 4), 1);
        due.is("34 kinds", x.of(5, 0), 5);
        due.is("34 kinds", x.of(4, 0), 3);
        due.is("34 bowls", Due.night(x, "bowl 0 99;bowl 15 1;bowl 0 7"), 3);
        due.is("34 the later one", x.bowl(0, 0), 7);
        due.is("34 zeros ahead", Due.night(x, "bowl 00001 0000000099"), 1);
        due.is("34 zeros ahead", x.bowl(1, 0), 99);
        due.is("34 a task", Due.night(x, "task at 15 hour 99 need 99"), 1);
        due.is("34 its PLACE", x.taskOf(0, 0), 15);
        due.is("34 its HOUR", x.taskOf(0, 1), 99);
        due.is("34 its NEED", x.taskOf(0, 2), 99);
        due.is("34 eating", Due.night(x, "eat 1 40;herd at 0 fasts 9;eat 6 0"), 3);
        due.is("34 MEAL", x.of(1, 3), 40);
        due.is("34 FASTS", x.of(1, 4), 0);
        due.is("34 a new one", x.of(6, 3), 0);
        due.is("34 a new one", x.of(6, 4), 0);
        due.is("34 the tape is empty", x.count(2), 0);
        due.is("34 no finding", x.status(-1), 0);
    }

    private static void nightFaults() {
        String[] texts = {
            "", "  ", ";", "person", "person at", "person at ", "person at 16", "person 3", "persona at 3",
            "Person at 3", "person at 3;", "person at 3; ", "person at 3;;", "person at 3 person at 4",
            "person at 3 goes", "person at 3 goes 16", "person at 3 meal 100", "person at 3 fasts 1000",
            "person at 3 fasts 1 meal 2", "person at 3 meal 2 goes 1", "person at 3 goes 1 goes 2",
            "person at 3!", "person at 3 !", "person at 3 fasts 12345678901234567890", "bowl 1", "bowl 1 100",
            "bowl 16 1", "bowl at 1 1", "bowl 1 1 1", "task at 1 hour 100 need 1", "task at 1 hour 1 need 0",
            "task at 1 hour 1 need 100", "task at 1 need 1", "task at 16", "task 1", "eat 1 1", "eat 0 100",
            "eat 0", "eat herd 1", "herd at 1;eat 2 1", "goes 1", "1", "bowl\t1 1", "bowl 1-1", "bowl 1 4294967297",
            "herd at 5;bowl 5 5;task at 5 hour 5 need 5;eat 0 5;nought"};
        int[] faults = {
            0, 2, 0, 6, 9, 10, 10, 7, 0,
            0, 12, 13, 12, 12,
            16, 17, 17, 18,
            20, 19, 19,
            11, 12, 18, 6, 7,
            5, 5, 9, 15, 22,
            22, 10, 8, 5, 4, 6,
            5, 4, 14, 0, 0, 4, 6, 7,
            51};
        due.is("34 as many faults", faults.length, texts.length);
        for (int i = 0; i < texts.length; i++) {
            oneFault(texts[i], faults[i]);
        }
        oneFault("bowl 1 1" + ";".repeat(112), 9);
        oneFault(";".repeat(120), 0);
        oneFault("eat 0 20;".repeat(13) + "   ", 120);
        oneFault("gowl 1 1", 0);
        oneFault("bowz 1 1", 0);
        oneFault("bowlz 1 1", 0);
        oneFault("bowl" + (char) 225 + " 1 1", 4);
        oneFault("bowl 1 1" + (char) 0, 8);
        SupperLight x = new SupperLight();
        x.being(0, 0);
        due.is("34 120 bytes", Due.night(x, "eat 0 20;".repeat(12) + "  eat 0   20"), 13);
    }

    private static void oneFault(String text, int fault) {
        SupperLight x = new SupperLight();
        x.being(0, 0);
        due.is("34 fault of '" + text + "'", Due.night(x, text), -1 - fault);
        due.is("34 the tape is empty", x.count(2), 0);
        due.is("34 nothing changes", x.count(0), 1);
        due.is("34 nothing changes", x.count(1), 0);
        due.is("34 nothing changes", x.now(2), 0);
        due.is("34 nothing changes", x.of(0, 3), 20);
        due.is("34 no finding", x.status(-1), 0);
    }

    private static void nightFull() {
        SupperLight x = new SupperLight();
        for (int b = 0; b < 9; b++) {
            x.being(0, 0);
        }
        due.is("34 an 11th", Due.night(x, "herd at 1;herd at 2"), -11);
        due.is("34 nothing came", x.count(0), 9);
        due.is("34 a 10th", Due.night(x, "herd at 1"), 1);
        due.is("34 an 11th", Due.night(x, "herd nought"), -1);
        for (int t = 0; t < 7; t++) {
            x.task(0, 0, 1);
        }
        due.is("34 a 9th", Due.night(x, "task at 1 hour 1 need 1;task at 1 hour 1 need 1"), -25);
        due.is("34 an 8th", Due.night(x, "task at 1 hour 1 need 1"), 1);
        due.is("34 a 9th", Due.night(x, "task"), -1);
        due.is("34 bowls still come", Due.night(x, "bowl 1 1;eat 9 9"), 2);
    }

    private static void sheets() {
        SupperLight x = new SupperLight();
        due.is("35 no such sheet", x.sheet(4, 8, 1), Due.BEYOND);
        due.is("35 no such sheet", x.sheet(-1, 8, 1), Due.BEYOND);
        due.is("35 other bits", x.sheet(0, 32, 1), Due.BEYOND);
        due.is("35 other bits", x.sheet(0, -8, 1), Due.BEYOND);
        due.is("35 other bits ahead of SIZE", x.sheet(0, 7, -1), Due.BEYOND);
        due.is("35 no such sheet ahead of SIZE", x.sheet(4, 8, -1), Due.BEYOND);
        due.is("35 SIZE", x.sheet(0, 8, -1), Due.SIZE);
        due.is("35 SIZE", x.sheet(0, 0, LEAST), Due.SIZE);
        due.is("35 too many", x.sheet(0, 8, 41), Due.BEYOND);
        due.is("35 too many", x.sheet(0, 0, 41), Due.BEYOND);
        int[] bits = {8, 16, 64};
        for (int b : bits) {
            due.is("35 sheet", x.sheet(3, b, 40), 40);
            due.is("35 all 0", x.write(3, 39, 7), 0);
            due.is("35 anew", x.sheet(3, b, 40), 40);
            due.is("35 all 0", x.write(3, 39, 7), 0);
        }
        due.is("35 none", x.sheet(3, 8, 0), 0);
        due.is("35 it isn't missing", x.map(3), 0);
        due.is("35 MISSING", x.sheet(3, 0, 5), 0);
        due.is("35 MISSING", x.map(3), Due.MISSING);
    }

    private static void write() {
        SupperLight x = new SupperLight();
        due.is("36 no such sheet", x.write(4, 0, 0), Due.BEYOND);
        due.is("36 no such sheet", x.write(-1, 0, 0), Due.BEYOND);
        due.is("36 MISSING ahead of BEYOND", x.write(0, -1, 0), Due.MISSING);
        x.sheet(0, 8, 3);
        x.sheet(1, 16, 3);
        x.sheet(2, 64, 3);
        due.is("36 no such number", x.write(0, 3, 0), Due.BEYOND);
        due.is("36 no such number", x.write(0, -1, 0), Due.BEYOND);
        long v = 0x123456789abcdef0L;
        long[] kept = {(byte) v, (short) v, v};
        for (int s = 0; s < 3; s++) {
            due.is("36 write", x.write(s, 2, v), 0);
            due.is("36 its lowest bits", x.write(s, 2, 127), kept[s]);
            due.is("36 write", x.write(s, 2, -1), 127);
            due.is("36 write", x.write(s, 2, 256), -1);
        }
        due.is("36 8 bits", x.write(0, 2, 0), 0);
        due.is("36 16 bits", x.write(1, 2, 65536 + 5), 256);
        due.is("36 16 bits", x.write(1, 2, 0), 5);
    }

    private static void copy() {
        SupperLight x = new SupperLight();
        x.sheet(0, 8, 5);
        x.sheet(1, 16, 5);
        x.sheet(2, 8, 3);
        due.is("37 no such sheet", x.copy(4, 0, 0, 0, 1), Due.BEYOND);
        due.is("37 no such sheet", x.copy(0, 0, -1, 0, 1), Due.BEYOND);
        due.is("37 no such sheet ahead of MISSING", x.copy(3, 0, 4, 0, 1), Due.BEYOND);
        due.is("37 MISSING", x.copy(0, 0, 3, 0, 1), Due.MISSING);
        due.is("37 MISSING", x.copy(3, 0, 0, 0, 1), Due.MISSING);
        due.is("37 MISSING ahead of BEYOND", x.copy(3, -1, 0, 0, 1), Due.MISSING);
        due.is("37 KIND", x.copy(0, 0, 1, 0, 1), Due.KIND);
        due.is("37 KIND ahead of BEYOND", x.copy(0, -1, 1, 0, 99), Due.KIND);
        int[][] wrong = {{-1, 0, 1}, {0, -1, 1}, {0, 0, -1}, {0, 0, 4}, {5, 0, 1}, {0, 3, 1}, {6, 0, 0}, {0, 4, 0},
            {MOST, 0, 1}, {1, MOST, MOST}, {1, 1, MOST}, {LEAST, 0, LEAST}};
        for (int[] w : wrong) {
            due.is("37 BEYOND", x.copy(0, w[0], 2, w[1], w[2]), Due.BEYOND);
        }
        for (int i = 0; i < 5; i++) {
            x.write(0, i, 10 + i);
        }
        due.is("37 none at the ends", x.copy(0, 5, 2, 3, 0), 0);
        due.is("37 copy", x.copy(0, 3, 2, 1, 2), 2);
        due.is("37 0", x.write(2, 0, 0), 0);
        due.is("37 1", x.write(2, 1, 0), 13);
        due.is("37 2", x.write(2, 2, 0), 14);
        due.is("37 over itself", x.copy(0, 0, 0, 1, 4), 4);
        int[] forth = {10, 10, 11, 12, 13};
        for (int i = 0; i < 5; i++) {
            due.is("37 as they all were", x.write(0, i, 10 + i), forth[i]);
        }
        due.is("37 over itself", x.copy(0, 1, 0, 0, 4), 4);
        int[] back = {11, 12, 13, 14, 14};
        for (int i = 0; i < 5; i++) {
            due.is("37 as they all were", x.write(0, i, 0), back[i]);
        }
    }

    private static void laysAndMap() {
        SupperLight x = new SupperLight();
        due.is("38 no such sheet", x.lays(4), Due.BEYOND);
        due.is("38 no such sheet", x.lays(-1), Due.BEYOND);
        due.is("38 MISSING", x.lays(0), Due.MISSING);
        due.is("39 no such sheet", x.map(4), Due.BEYOND);
        due.is("39 no such sheet", x.map(-1), Due.BEYOND);
        due.is("39 MISSING", x.map(0), Due.MISSING);
        x.sheet(0, 64, 4);
        x.write(0, 0, 99);
        x.write(0, 1, 100);
        x.write(0, 2, -1);
        x.write(0, 3, 1L << 32);
        x.bowl(1, 5);
        x.bowl(2, 6);
        x.bowl(4, 7);
        due.is("38 what may be", x.lays(0), 1);
        due.is("38 the rest is left", x.now(2), 99 + 5 + 6 + 7);
        x.sheet(0, 8, 40);
        x.write(0, 15, 3);
        due.is("38 sixteen", x.lays(0), 16);
        due.is("38 the last", x.now(2), 3);
        x.being(3, 1);
        x.eat(0, 50);
        x.sheet(1, 16, 3);
        x.sheet(2, 8, 40);
        due.is("39 map", x.map(1), 3);
        due.is("39 0", x.write(1, 0, 0), 75);
        due.is("39 1", x.write(1, 1, 0), 150);
        due.is("39 2", x.write(1, 2, 0), 75);
        x.write(2, 16, 9);
        due.is("39 as many places", x.map(2), 16);
        due.is("39 its lowest bits", x.write(2, 1, 0), (byte) 150);
        due.is("39 the last", x.write(2, 15, 0), 3 + (150 >> 5));
        due.is("39 the rest is left", x.write(2, 16, 0), 9);
    }

    private static void read() {
        SupperLight x = new SupperLight();
        due.is("40 no such sheet", x.read(4), Due.BEYOND);
        due.is("40 no such sheet", x.read(-1), Due.BEYOND);
        due.is("40 MISSING", x.read(0), Due.MISSING);
        x.sheet(0, 64, 1);
        due.is("40 no being, no light", x.read(0), 1);
        x.write(0, 0, 1);
        due.is("40 no being, some light", x.read(0), 0);
        x.being(0, 0);
        x.being(0, 0);
        x.being(0, 0);
        x.bowl(0, 2);
        x.write(0, 0, 42);
        due.is("40 two of three", x.read(0), 3);
        x.write(0, 0, 62);
        due.is("40 all three", x.read(0), 1);
        x.write(0, 0, 2);
        due.is("40 none of them", x.read(0), 1);
        x.being(5, 0);
        due.is("40 a faster or not", x.read(0), 2);
        x.write(0, 0, 42L + (1L << 32));
        due.is("40 all 64 bits", x.read(0), 0);
        x.write(0, 0, Long.MIN_VALUE);
        due.is("40 all 64 bits", x.read(0), 0);
        x.sheet(1, 16, 40);
        x.map(1);
        x.write(1, 39, 77);
        due.is("40 beyond place 15", x.read(1), 2);
        SupperLight y = new SupperLight();
        y.being(1, 0);
        y.being(1, 0);
        y.sheet(0, 16, 1);
        y.write(0, 0, 30);
        due.is("40 each shining as it does", y.read(0), 2);
        for (int b = 2; b < 10; b++) {
            y.being(5, 0);
        }
        due.is("40 ten beings", y.read(0), 512);
    }

    private static void images() {
        SupperLight x = new SupperLight();
        x.being(4, 3);
        x.bowl(1, 9);
        x.task(2, 3, 4);
        x.hours(2);
        x.sheet(0, 8, 2);
        due.is("41 image", x.image(), 1);
        x.being(0, 0);
        x.turn(0, 2);
        x.set(0, 1, 7);
        x.set(0, 2, 8);
        x.set(0, 3, 9);
        x.set(0, 4, 10);
        x.bowl(1, 50);
        x.task(3, 3, 3);
        x.hours(5);
        x.write(0, 1, 5);
        Due.feed(x, "abc");
        x.light(99);
        due.is("42 undo", x.undo(), 1);
        int[] told = {4, 3, 3, 20, 2};
        for (int what = 0; what < 5; what++) {
            due.is("42 of(0, " + what + ")", x.of(0, what), told[what]);
        }
        due.is("42 BOWLS", x.now(2), 7);
        due.is("42 HOUR", x.now(0), 2);
        due.is("42 TASKS", x.count(1), 1);
        due.is("42 THE TAPE not", x.count(2), 3);
        due.is("42 sheets not", x.write(0, 1, 0), 5);
        due.is("45 status not", x.status(-1), 1);
        x.being(0, 0);
        due.is("42 it stays", x.undo(), 1);
        x.being(0, 0);
        due.is("41 the latest", x.image(), 1);
        x.being(0, 0);
        due.is("42 the latest", x.undo(), 2);
        due.is("43 tear", x.tear(), 1);
        due.is("43 tear", x.tear(), 0);
        due.is("42 NONE", x.undo(), Due.NONE);
        due.is("43 all else stays", x.count(0), 2);
    }

    private static void count() {
        SupperLight x = new SupperLight();
        x.being(0, 0);
        x.being(5, 0);
        x.eat(1, 99);
        x.task(0, 0, 1);
        x.feed(0, 3);
        int[] told = {2, 1, 3, 119};
        for (int what = 0; what < 4; what++) {
            due.is("44 count(" + what + ")", x.count(what), told[what]);
        }
        due.is("44 count(4)", x.count(4), Due.BEYOND);
        due.is("44 count(-1)", x.count(-1), Due.BEYOND);
    }

    private static void status() {
        SupperLight x = new SupperLight();
        x.light(16);
        for (int b = 0; b < 12; b++) {
            x.being(0, 0);
        }
        x.as(0, 1);
        x.as(0, 1);
        x.as(0, 1);
        x.undo();
        x.undo();
        x.undo();
        x.undo();
        for (int i = 0; i < 104; i++) {
            x.hours(100);
        }
        for (int i = 0; i < 6; i++) {
            x.map(0);
        }
        for (int i = 0; i < 7; i++) {
            x.sheet(0, 0, -1);
        }
        for (int which = 0; which < 7; which++) {
            due.is("45 status(" + which + ")", x.status(which), which + 1);
        }
        due.is("45 status(-1)", x.status(-1), 28);
        due.is("45 status(7)", x.status(7), Due.BEYOND);
        due.is("45 status(-2)", x.status(-2), Due.BEYOND);
        due.is("45 counted from then on", x.status(0), 3);
        due.is("45 counted from then on", x.status(-1), 30);
    }

    /** All of the 512 calls that an object is for answer as the first ones do. */
    private static void longestUse() {
        SupperLight x = new SupperLight();
        for (int call = 1; call <= 511; call++) {
            due.is("45 refused call " + call, x.light(16), Due.BEYOND);
        }
        due.is("45 the last call", x.status(-1), 511);
        SupperLight y = new SupperLight();
        y.image();
        for (int round = 1; round <= 127; round++) {
            due.is("42 being", y.being(3, 15), 0);
            due.is("42 hours", y.hours(100), 0);
            due.is("42 undo", y.undo(), 0);
            due.is("42 HOUR", y.now(0), 0);
        }
        due.is("42 the last calls", y.being(3, 15), 0);
        due.is("42 the last calls", y.of(0, 5), 60);
        due.is("42 the last calls", y.undo(), 0);
    }
}
