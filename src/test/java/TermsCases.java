/** The terms: findings, section 1 but for the text, sections 2 and 3. */
final class TermsCases {
    private static final int TERMS = Book.TERMS;

    static void run(Book book) {
        findings(book);
        order(book);
        refused(book);
        numbers(book);
        places(book);
        beings(book);
        shining(book);
        tasks(book);
        anHour(book);
        on(book);
        sheets(book);
    }

    private static void findings(Book book) {
        book.says(TERMS, "FINDINGS are answers below -1000000000: -1000000001 BEYOND, -1000000002 FULL, -1000000003 KIND, "
            + "-1000000004 NONE, -1000000005 STATE, -1000000006 MISSING, -1000000007 SIZE");
        book.run("light 16 = -1000000001");
        book.run("10x being 0 0, being 0 0 = -1000000002");
        book.run("being 0 0, as 0 1 = -1000000003");
        book.run("undo = -1000000004");
        book.run("99x hours 100, hours 100 = -1000000005");
        book.run("map 0 = -1000000006");
        book.run("sheet 0 8 -1 = -1000000007");
        book.says(TERMS, "(in longs, too)");
        book.run("write 4 0 0 = -1000000001");
        book.run("write 0 0 0 = -1000000006");
        book.run("sheet 0 64 1, write 0 1 0 = -1000000001");
        // A number that only looks like a finding is none.
        book.run("sheet 0 64 1, write 0 0 -1000000001 = 0, write 0 0 -1000000007 = -1000000001, status -1 = 0");
    }

    private static void order(Book book) {
        book.says(TERMS, "Each act tells its findings in the order in which they are asked;");
        book.run("10x being 0 0, being 6 0 = BEYOND, being 0 16 = BEYOND, being -1 -1 = BEYOND, being 5 15 = FULL");
        book.run("being 0 0, as 1 1 = BEYOND, as 0 6 = BEYOND, as 0 1 = KIND");
        book.run("8x task 0 0 1, task 16 0 1 = BEYOND, task 0 100 1 = BEYOND, task 0 0 0 = BEYOND, task 0 0 1 = FULL");
        book.run("99x hours 100, hours 99, hours 0 = BEYOND, hours 101 = BEYOND, hours 1 = STATE, hours 100 = STATE");
        book.run("being 0 0, being 0 1, meet 0 0 = BEYOND, meet 0 2 = BEYOND, meet 0 1 = NONE");
        book.run("bowl 0 9, way 0 1 -1 = BEYOND, way 0 16 0 = BEYOND, way 0 1 8 = NONE");
        book.run("bowl 0 9, first 0 1 -1 = BEYOND, first 0 16 0 = BEYOND, first 0 1 8 = NONE, first 16 16 0 = BEYOND");
        book.run("being 5 0, task 0 0 9, meal 1 0 = BEYOND, meal 0 1 = BEYOND, meal 0 0 = NONE");
        book.run("being 5 0, fasted 1 0 9 = BEYOND, fasted 0 16 9 = BEYOND, fasted 0 0 9 = NONE");
        book.run("30x feed 0 4, feed 0 0 = BEYOND, feed 0 5 = BEYOND, feed 0 1 = FULL");
        book.run("sheet 4 8 -1 = BEYOND, sheet 0 9 -1 = BEYOND, sheet 0 8 -1 = SIZE, sheet 0 8 41 = BEYOND");
        book.run("write 4 -1 0 = BEYOND, write 0 -1 0 = MISSING, sheet 0 8 1, write 0 -1 0 = BEYOND");
        book.run("sheet 0 8 1, sheet 1 16 1, copy 4 -1 2 0 0 = BEYOND, copy 2 -1 4 0 0 = BEYOND, copy 2 -1 0 0 0 = MISSING, "
            + "copy 0 -1 2 0 0 = MISSING, copy 0 -1 1 0 0 = KIND, copy 0 -1 0 0 0 = BEYOND");
        book.run("sheet 1 16 1, copy 1 0 2 0 1 = MISSING, copy 2 0 1 0 1 = MISSING");
        book.run("lays 4 = BEYOND, lays 0 = MISSING, map 4 = BEYOND, map 0 = MISSING, read 4 = BEYOND, read 0 = MISSING");
    }

    /** What leaves all as it is is looked at by Script, after each call here. */
    private static void refused(Book book) {
        book.says(TERMS, "one that answers a finding changes nothing but status().");
        String full = """
            6x being 4 5, 4x being 1 10, set 0 2 15, set 9 3 77, set 8 4 3, bowl 3 44
            8x task 7 50 9, image, set 1 1 2, sheet 0 8 3, sheet 1 16 2, write 0 1 5, write 1 1 6
            tape eat 0 7;bowl 1 9|
            """;
        book.run(full + "bowl 3 100 = BEYOND, bowl 16 1 = BEYOND, light 16 = BEYOND, lit -1 = BEYOND, being 0 0 = FULL");
        book.run(full + "of 0 7 = BEYOND, set 0 1 16 = BEYOND, set 0 3 100 = BEYOND, turn 0 6 = BEYOND, as 0 5 = KIND");
        book.run(full + "eat 0 100 = BEYOND, eat 10 1 = BEYOND, gives 0 16 = BEYOND, seen 16 = BEYOND, task 0 0 1 = FULL");
        book.run(full + "taskOf 0 5 = BEYOND, hours 0 = BEYOND, hours 101 = BEYOND, now 6 = BEYOND, on 0 101 = BEYOND");
        book.run(full + "meet 0 0 = BEYOND, meet 6 2 = NONE, stealth 0 16 = BEYOND, way 0 15 0 = NONE, first 0 0 0 = NONE");
        book.run(full + "hang 100 = BEYOND, meal 0 8 = BEYOND, whom 8 = BEYOND, goal 10 = BEYOND, kind 10 = BEYOND");
        book.run(full + "fasted 0 0 9999 = NONE, fasted 0 16 0 = BEYOND, feed 0 5 = BEYOND, sheet 0 16 -1 = SIZE");
        book.run(full + "sheet 0 16 41 = BEYOND, sheet 0 0 41 = BEYOND, sheet 0 0 -1 = SIZE, sheet 0 7 1 = BEYOND");
        book.run(full + "write 0 3 9 = BEYOND, write 2 0 9 = MISSING, copy 0 0 1 0 1 = KIND, copy 0 0 0 1 3 = BEYOND");
        book.run(full + "copy 0 1 0 0 3 = BEYOND, copy 0 0 2 0 1 = MISSING, lays 2 = MISSING, map 4 = BEYOND, read 3 = MISSING");
        book.run(full + "count 4 = BEYOND, status 7 = BEYOND, status -2 = BEYOND");
        book.run("30x feed 0x20202020 4, feed 0x31 1 = FULL");
        book.run("29x feed 0x20202020 4, feed 0x31 2, feed 0x31 3 = FULL, feed 0x31 4 = FULL, feed 0x31 2 = 120");
        book.run("being 3 3, set 0 2 9, bowl 0 9, 99x hours 100, bowl 0 9, set 0 1 3, eat 0 9, hours 100 = STATE");
        book.run("being 3 3, undo = NONE, dark = NONE, needed = NONE, task 0 9 9, meal 0 0 = 33, turn 0 5, meal 0 0 = NONE");
    }

    private static void numbers(Book book) {
        book.says(TERMS, "Quotients are cut.");
        book.run("being 1 0, being 1 0, set 0 3 15, of 0 5 = 22, turn 0 4, of 0 5 = 44, set 0 3 1, of 0 5 = 2");
        book.run("being 0 0, set 0 3 15, gives 0 1 = 7, gives 0 2 = 3, gives 0 3 = 1, gives 0 7 = 0, light 1 = 7");
        // Each being's own gift is cut, not the sum of them.
        book.run("2x being 0 0, set 0 3 15, set 1 3 15, light 1 = 14, light 2 = 6, light 3 = 2, light 7 = 0");
        book.run("being 0 3, set 0 2 4, of 0 6 = 4, set 0 2 7, of 0 6 = 1");
        book.says(TERMS, "Sets are told by bits.");
        book.run("bowl 0 1, bowl 15 1, lit 1 = {0 15}, lit 1 = 32769, lit 2 = {}, lit 0 = 65535");
        book.run("10x being 0 0, seen 0 = 1023, set 3 3 0, seen 0 = {0 1 2 4 5 6 7 8 9}, now 4 = 1023");
        book.run("8x task 0 0 1, now 5 = {}, bowl 0 1, now 5 = 255");
        book.run("10x being 0 0, task 0 0 99, whom 0 = {}, set 0 3 1, set 1 3 1, set 2 3 1, set 3 3 1, "
            + "set 4 3 1, set 5 3 14, whom 0 = {0 1 2 3 4 5 6 7 8 9}");
    }

    private static void places(Book book) {
        book.says(TERMS, "PLACES 0 to 15, in four rows of four: row (PLACE by 4) and column (the rest).");
        book.run("bowl -1 1 = BEYOND, bowl 0 1 = 0, bowl 15 1 = 0, bowl 16 1 = BEYOND, now 2 = 2");
        // 3 ends a row and 4 begins one: they aren't one step apart.
        book.run("being 0 3, gives 0 4 = 1, gives 0 7 = 10, gives 0 2 = 10, gives 0 0 = 2");
        book.run("being 0 12, gives 0 11 = 1, gives 0 8 = 10, gives 0 13 = 10, gives 0 15 = 2");
        book.run("way 3 4 0 = 4, way 7 8 0 = 4, way 11 12 0 = 4, first 4 3 0 = 0, first 3 4 0 = 2");
        book.says(TERMS, "STEPS from one to another: by how much rows differ, and columns, together.");
        book.run("being 0 0, set 0 2 15, of 0 6 = 6, set 0 2 3, of 0 6 = 3, set 0 2 12, of 0 6 = 3, set 0 2 0, of 0 6 = 0");
        book.run("being 0 12, set 0 2 3, of 0 6 = 6, set 0 2 9, of 0 6 = 2, set 0 2 15, of 0 6 = 3, set 0 2 1, of 0 6 = 4");
        book.says(TERMS, "HOUR: 0 at first (9999 at most).");
        book.run("now 0 = 0, 99x hours 100, now 0 = 9900, hours 99, now 0 = 9999, hours 1 = STATE, now 0 = 9999");
        book.run("99x hours 100, hours 100 = STATE, hours 98, now 0 = 9998, hours 2 = STATE, hours 1 = 0, now 0 = 9999");
        book.says(TERMS, "BOWL of a PLACE: 0 to 99 (0 at first).");
        book.run("light 0 = 0, light 15 = 0, bowl 7 0 = 0, bowl 7 99 = 0, bowl 7 100 = BEYOND, bowl 7 -1 = BEYOND, light 7 = 99");
    }

    private static void beings(Book book) {
        book.says(TERMS, "BEINGS 0, 1, .. (at most 10)");
        book.run("being 0 1 = 0, being 0 2 = 1, 7x being 0 3, being 0 15 = 9, being 0 4 = FULL, of 9 1 = 15, of 10 1 = BEYOND");
        book.says(TERMS, "are of KINDS: 0 PERSON, 1 SINGER under PERSON, 2 THIEF under PERSON, 3 HERD under PERSON, "
            + "4 CHOIR under SINGER, 5 FASTER under THIEF;");
        String[] under = {"0", "0 1", "0 2", "0 3", "0 1 4", "0 2 5"};
        for (int kind = 0; kind < 6; kind++) {
            StringBuilder lines = new StringBuilder("being " + kind + " 0");
            for (int upper = 0; upper < 6; upper++) {
                lines.append(", as 0 ").append(upper).append(under[kind].contains("" + upper) ? " = 20" : " = KIND");
            }
            book.run(lines.toString());
        }
        book.run("being -1 0 = BEYOND, being 6 0 = BEYOND, being 5 0 = 0, being 0 0 = 1");
        book.says(TERMS, "each AT a PLACE, with a GOAL (a PLACE; where it came at first),");
        book.run("being 0 0, being 0 15, of 0 1 = 0, of 0 2 = 0, of 1 1 = 15, of 1 2 = 15");
        book.run("being 0 5, set 0 2 -1 = BEYOND, set 0 2 16 = BEYOND, set 0 2 15 = 5, set 0 2 0 = 15");
        // Only where it came at first: being put elsewhere later doesn't move the goal.
        book.run("being 0 5, set 0 1 9, of 0 2 = 5, hours 1, of 0 1 = 5");
        book.says(TERMS, "MEAL (0 to 99; 20 at first)");
        book.run("being 0 0, of 0 3 = 20, set 0 3 0 = 20, set 0 3 99 = 0, set 0 3 100 = BEYOND, set 0 3 -1 = BEYOND, of 0 3 = 99");
        book.says(TERMS, "and FASTS (hours since it ate; 0 at first, 999 at most).");
        book.run("being 0 0, of 0 4 = 0, hours 3, of 0 4 = 3, eat 0 9, of 0 4 = 0, hours 1, of 0 4 = 1");
        book.run("being 0 0, set 0 4 998, hours 1, of 0 4 = 999, hours 1, of 0 4 = 999, hours 100, of 0 4 = 999");
        book.run("being 0 0, 9x hours 100, hours 98, of 0 4 = 998, hours 2, of 0 4 = 999, eat 0 1, of 0 4 = 0");
    }

    private static void shining(Book book) {
        book.says(TERMS, "SHINES: PERSON: MEAL less FASTS (0 at least).");
        book.run("being 0 0, set 0 4 19, of 0 5 = 1, set 0 4 20, of 0 5 = 0, set 0 4 21, of 0 5 = 0, set 0 4 999, of 0 5 = 0");
        book.run("being 0 0, set 0 3 0, of 0 5 = 0, set 0 3 99, of 0 5 = 99, set 0 4 99, of 0 5 = 0, light 0 = 0");
        book.says(TERMS, "SINGER: as PERSON, and half of that more, if another BEING that is a SINGER (or under it) "
            + "is AT the same PLACE.");
        book.run("being 1 7, of 0 5 = 20, being 1 6, of 0 5 = 20, set 1 1 7, of 0 5 = 30, of 1 5 = 30");
        book.run("being 1 7, being 4 7, of 0 5 = 30, turn 1 0, of 0 5 = 20, turn 1 2, of 0 5 = 20, turn 1 3, of 0 5 = 20, "
            + "turn 1 5, of 0 5 = 20, turn 1 1, of 0 5 = 30");
        // One that shines no more sings still; a third voice makes it no brighter.
        book.run("being 1 7, being 1 7, set 1 3 0, of 0 5 = 30, of 1 5 = 0, set 1 4 999, of 0 5 = 30, being 4 7, of 0 5 = 30");
        book.run("being 1 7, being 4 7, set 0 4 19, of 0 5 = 1, set 0 4 18, of 0 5 = 3, set 0 4 20, of 0 5 = 0, set 0 4 21, of 0 5 = 0");
        // Where it is AT counts, not where it goes.
        book.run("being 1 7, being 1 6, set 1 2 7, of 0 5 = 20, hours 1, of 0 5 = 28");
        book.says(TERMS, "THIEF: as PERSON, but 0 if FASTS is 6 or more.");
        book.run("being 2 0, set 0 4 5, of 0 5 = 15, set 0 4 6, of 0 5 = 0, set 0 4 7, of 0 5 = 0, set 0 3 99, of 0 5 = 0");
        book.run("being 2 0, set 0 3 3, of 0 5 = 3, set 0 4 4, of 0 5 = 0, set 0 4 2, of 0 5 = 1, turn 0 0, set 0 4 6, of 0 5 = 0");
        book.says(TERMS, "HERD: three times as PERSON.");
        book.run("being 3 0, of 0 5 = 60, set 0 4 19, of 0 5 = 3, set 0 4 20, of 0 5 = 0, set 0 4 21, of 0 5 = 0, eat 0 99 = 297");
        book.says(TERMS, "CHOIR: twice as SINGER.");
        book.run("being 4 0, of 0 5 = 40, being 1 0, of 0 5 = 60, of 1 5 = 30, set 0 3 99, of 0 5 = 296, set 0 3 0, of 0 5 = 0");
        book.run("being 4 0, being 4 0, of 0 5 = 60, of 1 5 = 60, turn 1 2, of 0 5 = 40, set 0 4 21, of 0 5 = 0");
        book.says(TERMS, "FASTER: 0.");
        book.run("being 5 0, of 0 5 = 0, eat 0 99 = 0, light 0 = 0, now 1 = 0, seen 0 = {}");
        book.says(TERMS, "GIVES to a PLACE: what it SHINES, halved once for each STEP from it.");
        book.run("being 3 0, eat 0 99, gives 0 0 = 297, gives 0 1 = 148, gives 0 5 = 74, gives 0 3 = 37, gives 0 13 = 18, "
            + "gives 0 11 = 9, gives 0 15 = 4");
        book.run("being 3 0, eat 0 21, gives 0 14 = 1, gives 0 15 = 0, eat 0 22, gives 0 15 = 1");
        book.says(TERMS, "LIGHT of a PLACE: its BOWL, and what all BEINGS GIVE to it.");
        book.run("bowl 0 99, 10x being 3 0, light 0 = 699, light 1 = 300, light 15 = 0, bowl 0 0, light 0 = 600");
        book.run("bowl 5 3, light 5 = 3, light 4 = 0, being 0 4, light 5 = 13, light 4 = 20, set 0 4 20, light 5 = 3");
    }

    private static void tasks(Book book) {
        book.says(TERMS, "TASKS 0, 1, .. (at most 8): a PLACE, an HOUR (0 to 99 from the beginning on), a NEED (1 to 99).");
        book.run("task 0 0 1 = 0, task 15 99 99 = 1, 5x task 1 1 1, task 2 2 2 = 7, task 0 0 1 = FULL, taskOf 7 2 = 2");
        book.run("task -1 0 1 = BEYOND, task 16 0 1 = BEYOND, task 0 -1 1 = BEYOND, task 0 100 1 = BEYOND, "
            + "task 0 0 0 = BEYOND, task 0 0 100 = BEYOND, task 0 0 -1 = BEYOND, count 1 = 0");
        // From the beginning on, not from now on.
        book.run("bowl 0 99, hours 10, task 0 10 89 = 0, task 0 9 1 = 1, task 0 0 1 = 2, now 5 = {0}, taskOf 0 1 = 10");
        book.says(TERMS, "DARK: a TASK, if LIGHT of its PLACE is less than its NEED.");
        book.run("task 3 0 5, bowl 3 4, taskOf 0 3 = 1, bowl 3 5, taskOf 0 3 = 0, bowl 3 6, taskOf 0 3 = 0, bowl 3 0, taskOf 0 3 = 1");
    }

    private static void anHour(Book book) {
        book.says(TERMS, "AN HOUR goes: each BEING that isn't AT its GOAL goes a STEP towards it: its row changes by one, "
            + "if that is another one; else its column.");
        book.run("being 0 3, set 0 2 12, hours 1, of 0 1 = 7, hours 1, of 0 1 = 11, hours 1, of 0 1 = 15, hours 1, of 0 1 = 14, "
            + "hours 1, of 0 1 = 13, hours 1, of 0 1 = 12, hours 1, of 0 1 = 12");
        book.run("being 0 12, set 0 2 3, hours 1, of 0 1 = 8, hours 1, of 0 1 = 4, hours 1, of 0 1 = 0, hours 1, of 0 1 = 1, "
            + "hours 2, of 0 1 = 3, hours 100, of 0 1 = 3");
        book.run("being 0 0, being 0 15, being 0 0, set 1 2 0, set 2 2 15, hours 2, of 0 1 = 0, of 1 1 = 7, of 2 1 = 8, hours 2, of 1 1 = 2, of 2 1 = 13");
        book.run("being 0 3, set 0 2 4, hours 1, of 0 1 = 7, hours 1, of 0 1 = 6, of 0 6 = 2, hours 3, of 0 1 = 4");
        book.run("being 0 0, being 0 0, set 1 2 1, hours 1, of 0 1 = 0, of 1 1 = 1, now 4 = {0 1}");
        book.says(TERMS, "FASTS of each is 1 more, BOWLS are 1 less (0 at least), HOUR is 1 more.");
        book.run("2x being 0 0, set 1 2 5, set 1 4 7, hours 1, of 0 4 = 1, of 1 4 = 8, now 0 = 1");
        book.run("bowl 0 2, bowl 15 1, hours 1 = 1, light 0 = 1, light 15 = 0, hours 1 = 0, hours 1 = 0, now 2 = 0, bowl 0 0 = 0");
    }

    private static void on(Book book) {
        book.says(TERMS, "ON: n HOURS go on with all as it is; nothing changes.");
        book.run("being 0 0, set 0 2 5, bowl 5 2, on 5 1 = 10, on 5 2 = 18, on 5 100 = 0, now 0 = 0, of 0 1 = 0, of 0 4 = 0, light 5 = 7");
        book.run("99x hours 100, hours 99, bowl 2 99, on 2 98 = 1, on 2 99 = 0, on 2 100 = 0, now 0 = 9999");
        book.run("being 0 0, set 0 4 990, on 0 50 = 0, of 0 4 = 990");
        book.says(TERMS, "A TASK COMES, if there is an n (0 to 100) ON which HOUR is its own;");
        book.run("task 0 0 1, task 0 1 1, task 0 99 1, dark = 0, hours 1, dark = 1, hours 1, dark = 2, hours 97, now 0 = 99, "
            + "dark = 2, hours 1, dark = NONE");
        book.run("bowl 0 99, task 0 5 1, hours 5, taskOf 0 4 = 1, hours 1, taskOf 0 4 = 0");
        book.says(TERMS, "it is DONE, if it isn't DARK then.");
        book.run("bowl 0 30, task 0 10 20, task 0 10 21, taskOf 0 4 = 1, taskOf 1 4 = 0, taskOf 1 3 = 0");
        book.run("bowl 0 99, task 0 98 1, task 0 99 1, now 5 = {0}, taskOf 1 3 = 0");
        book.run("being 0 0, set 0 2 15, task 15 6 14, task 15 6 15, task 15 5 7, task 15 5 8, now 5 = {0 2}");
    }

    private static void sheets(Book book) {
        book.says(TERMS, "SHEETS 0 to 3 are rows of at most 40 numbers of 8, 16 or 64 bits, or MISSING (at first).");
        book.run("write 0 0 1 = MISSING, write 1 0 1 = MISSING, write 2 0 1 = MISSING, write 3 0 1 = MISSING");
        book.run("sheet -1 8 1 = BEYOND, sheet 0 8 40 = 40, sheet 3 8 40 = 40, sheet 4 8 1 = BEYOND, sheet 3 8 41 = BEYOND");
        book.run("sheet 0 8 1 = 1, sheet 1 16 1 = 1, sheet 2 64 1 = 1, sheet 3 32 1 = BEYOND, write 0 0 0x180, write 0 0 0 = -128, "
            + "write 1 0 0x18000, write 1 0 0 = -32768, write 2 0 LMIN, write 2 0 0 = LMIN");
    }
}
