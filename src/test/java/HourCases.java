/** Promises 14 to 21: tasks and hours, and what there will be ON. */
final class HourCases {
    static void run(Book book) {
        task(book);
        taskOf(book);
        hours(book);
        now(book);
        on(book);
        dark(book);
        out(book);
        meet(book);
    }

    private static void task(Book book) {
        book.says(14, "A new TASK: its number.");
        book.run("task 0 0 1 = 0, task 15 99 99 = 1, task 7 50 50 = 2, count 1 = 3, taskOf 1 0 = 15, taskOf 1 1 = 99, taskOf 1 2 = 99");
        // An hour that is gone by may be told, too.
        book.run("hours 100, task 0 0 1 = 0, task 0 99 1 = 1, taskOf 0 1 = 0");
        book.run("image, task 1 2 3, undo, task 4 5 6 = 0, taskOf 0 0 = 4, taskOf 0 1 = 5, taskOf 0 2 = 6");
        book.says(14, "BEYOND.");
        book.run("task -1 0 1 = BEYOND, task 16 0 1 = BEYOND, task MIN 0 1 = BEYOND, task MAX 0 1 = BEYOND");
        book.run("task 0 -1 1 = BEYOND, task 0 100 1 = BEYOND, task 0 MIN 1 = BEYOND, task 0 MAX 1 = BEYOND");
        book.run("task 0 0 0 = BEYOND, task 0 0 100 = BEYOND, task 0 0 -1 = BEYOND, task 0 0 MIN = BEYOND, task 0 0 MAX = BEYOND, count 1 = 0");
        book.says(14, "FULL.");
        book.run("7x task 0 0 1, task 0 0 1 = 7, task 0 0 1 = FULL, task 15 99 99 = FULL, count 1 = 8, status 1 = 2");
    }

    private static void taskOf(Book book) {
        book.says(15, "Of a TASK: what 0 PLACE, 1 HOUR, 2 NEED,");
        book.run("task 3 4 5, task 15 99 98, taskOf 0 0 = 3, taskOf 0 1 = 4, taskOf 0 2 = 5, taskOf 1 0 = 15, taskOf 1 1 = 99, taskOf 1 2 = 98");
        book.says(15, "3 1 if DARK now (whatever HOUR it is), else 0,");
        book.run("task 3 50 5, bowl 3 5, taskOf 0 3 = 0, hours 1, taskOf 0 3 = 1, hours 99, taskOf 0 3 = 1, bowl 3 5, taskOf 0 3 = 0");
        book.run("99x hours 100, hours 99, task 3 0 1, taskOf 0 3 = 1, bowl 3 1, taskOf 0 3 = 0, taskOf 0 4 = 0");
        book.run("task 3 50 5, task 4 50 7, bowl 3 9, taskOf 0 3 = 0, taskOf 1 3 = 1, bowl 4 6, taskOf 1 3 = 1, bowl 4 7, taskOf 1 3 = 0, bowl 3 4, taskOf 1 3 = 0");
        book.says(15, "4 1 if DONE, else 0.");
        book.run("task 3 5 5, bowl 3 9, taskOf 0 4 = 0, bowl 3 10, taskOf 0 4 = 1, hours 5, taskOf 0 4 = 1, bowl 3 4, taskOf 0 4 = 0, "
            + "bowl 3 99, taskOf 0 4 = 1, hours 1, taskOf 0 4 = 0");
        book.says(15, "BEYOND.");
        book.run("taskOf 0 0 = BEYOND, task 0 0 1, taskOf 1 0 = BEYOND, taskOf -1 0 = BEYOND, taskOf MIN 0 = BEYOND, taskOf MAX 0 = BEYOND");
        book.run("task 0 0 1, taskOf 0 -1 = BEYOND, taskOf 0 5 = BEYOND, taskOf 0 MIN = BEYOND, taskOf 0 MAX = BEYOND, taskOf 1 5 = BEYOND");
        book.run("8x task 0 0 1, taskOf 8 0 = BEYOND, taskOf 8 3 = BEYOND, taskOf 8 4 = BEYOND, taskOf 7 2 = 1");
        book.run("image, task 0 0 1, undo, taskOf 0 0 = BEYOND, taskOf 0 4 = BEYOND");
    }

    private static void hours(Book book) {
        book.says(16, "n HOURS go (1 to 100): LIGHT of all PLACES together then.");
        book.run("bowl 0 99, bowl 15 50, hours 1 = 147, hours 48 = 51, hours 1 = 49, hours 49 = 0, now 0 = 99");
        book.run("bowl 0 99, hours 99 = 0, now 0 = 99, hours 100 = 0, now 0 = 199");
        book.run("bowl 0 99, hours 100 = 0, bowl 0 0 = 0");
        book.run("being 0 0, hours 1 = 60, hours 18 = 1, hours 1 = 0, of 0 4 = 20");
        // Many hours at once are as many hours one by one.
        book.run("being 1 0, being 4 15, set 0 2 10, set 1 2 10, hours 3 = 250, of 0 1 = 9, of 1 1 = 10, hours 1 = 364");
        book.says(16, "BEYOND.");
        book.run("hours 0 = BEYOND, hours -1 = BEYOND, hours 101 = BEYOND, hours MIN = BEYOND, hours MAX = BEYOND, now 0 = 0");
        book.says(16, "STATE: HOUR would be above 9999.");
        book.run("98x hours 100, hours 99, hours 100 = 0, now 0 = 9999, hours 1 = STATE, hours 100 = STATE, status 4 = 2");
        book.run("99x hours 100, hours 100 = STATE, now 0 = 9900, hours 99 = 0, now 0 = 9999");
        book.run("99x hours 100, being 0 0, bowl 0 9, set 0 2 1, hours 100 = STATE, of 0 4 = 0, of 0 1 = 0, light 0 = 29");
    }

    private static void now(Book book) {
        book.says(17, "What 0 HOUR,");
        book.run("now 0 = 0, hours 100, now 0 = 100");
        book.says(17, "1 what all BEINGS SHINE together,");
        book.run("now 1 = 0, being 0 0, being 3 15, being 5 5, bowl 7 9, now 1 = 80, 7x being 3 3, now 1 = 500, hours 20, now 1 = 0");
        book.run("being 1 0, being 1 0, now 1 = 60, set 1 1 1, now 1 = 40");
        book.run("being 3 0, image, being 3 0, now 1 = 120, undo, now 1 = 60");
        book.says(17, "2 BOWLS together,");
        book.run("now 2 = 0, bowl 0 99, bowl 15 1, being 0 0, now 2 = 100, hours 1, now 2 = 98");
        StringBuilder all = new StringBuilder();
        for (int place = 0; place < 16; place++) {
            all.append("bowl ").append(place).append(" 99, ");
        }
        book.run(all + "now 2 = 1584, hours 98, now 2 = 16, hours 1, now 2 = 0");
        book.says(17, "3 LIGHT of all PLACES together,");
        book.run("now 3 = 0, bowl 0 9, bowl 15 1, now 3 = 10, being 0 0, now 3 = 76");
        book.run("being 5 0, now 3 = 0, turn 0 3, eat 0 1, now 3 = 5");
        book.says(17, "4 BEINGS that are AT their GOAL, as a set,");
        book.run("now 4 = {}, 10x being 0 0, now 4 = 1023, set 0 2 1, set 9 1 1, now 4 = {1 2 3 4 5 6 7 8}, hours 1, now 4 = 1023");
        book.says(17, "5 TASKS that are DONE, as a set.");
        book.run("now 5 = {}, bowl 0 9, 8x task 0 8 1, now 5 = 255, hours 8, now 5 = 255, hours 1, now 5 = {}");
        book.run("bowl 0 9, task 0 0 10, task 0 0 9, task 0 9 1, task 0 8 1, now 5 = {1 3}");
        book.says(17, "BEYOND.");
        book.run("now -1 = BEYOND, now 6 = BEYOND, now MIN = BEYOND, now MAX = BEYOND");
    }

    private static void on(Book book) {
        book.says(18, "LIGHT of a PLACE ON n HOURS (0 to 100).");
        book.run("bowl 0 99, on 0 0 = 99, on 0 1 = 98, on 0 98 = 1, on 0 99 = 0, on 0 100 = 0, light 0 = 99");
        book.run("being 2 0, on 0 5 = 15, on 0 6 = 0, on 1 5 = 7, being 0 15, set 1 2 0, on 0 6 = 14, on 15 6 = 0, on 15 5 = 0");
        book.run("being 1 0, being 1 3, set 0 2 3, on 3 2 = 27, on 3 3 = 50, on 3 4 = 48");
        book.run("being 3 0, set 0 4 999, set 0 3 99, on 0 0 = 0, on 0 100 = 0");
        book.says(18, "BEYOND.");
        book.run("on -1 0 = BEYOND, on 16 0 = BEYOND, on MIN 0 = BEYOND, on MAX 0 = BEYOND");
        book.run("on 0 -1 = BEYOND, on 0 101 = BEYOND, on 0 MIN = BEYOND, on 0 MAX = BEYOND, on 16 101 = BEYOND");
    }

    private static void dark(Book book) {
        book.says(19, "The first TASK that COMES and isn't DONE: the one of the least HOUR");
        book.run("task 0 9 1, task 0 8 1, task 0 10 1, dark = 1, bowl 0 9, dark = 0, bowl 0 10, dark = 2, bowl 0 11, dark = NONE");
        book.run("task 0 99 1, dark = 0, task 0 0 1, dark = 1, hours 1, dark = 0, hours 98, dark = 0, hours 1, dark = NONE");
        book.says(19, "(of several the least).");
        book.run("8x task 0 5 1, dark = 0");
        book.run("bowl 3 9, task 3 5 1, task 0 5 1, task 1 5 1, dark = 1, hours 5, dark = 1");
        book.says(19, "NONE.");
        book.run("dark = NONE, task 0 0 1, dark = 0, bowl 0 1, dark = NONE, bowl 0 0, hours 1, dark = NONE, status 3 = 3");
    }

    private static void out(Book book) {
        book.says(20, "In how many HOURS (0 to 100) ON first no BEING SHINES and all BOWLS are 0.");
        book.run("out = 0, bowl 15 1, out = 1, bowl 0 99, out = 99, hours 99, out = 0");
        book.run("being 0 0, out = 20, set 0 4 19, out = 1, set 0 4 20, out = 0, eat 0 99, out = 99, set 0 4 999, out = 0");
        book.run("being 2 0, out = 6, set 0 4 5, out = 1, set 0 4 6, out = 0, eat 0 3, out = 3, turn 0 5, out = 0");
        book.run("being 0 0, bowl 9 19, out = 20, bowl 9 21, out = 21, hours 20, out = 1");
        book.run("image, being 0 0, out = 20, undo, out = 0");
        // One whose light is seen nowhere but where it is shines still.
        book.run("being 0 0, eat 0 1, out = 1, being 5 5, out = 1");
        book.says(20, "NONE.");
        // Nothing can be brighter than 99 hours long: the longest that there is ends in time.
        book.run("10x being 3 0, eat 0 99, eat 9 99, bowl 0 99, bowl 15 99, out = 99, status 3 = 0");
    }

    private static void meet(Book book) {
        book.says(21, "In how many HOURS (0 to 100) ON two BEINGS are AT one PLACE first.");
        book.run("being 0 0, being 5 0, meet 0 1 = 0, set 1 1 15, meet 0 1 = 6, meet 1 0 = 6, hours 5, meet 0 1 = 1, hours 1, meet 0 1 = 0");
        // They meet on their ways and part again: the first time counts.
        book.run("being 0 0, being 0 2, set 0 2 2, set 1 2 0, meet 0 1 = 1, hours 1, meet 0 1 = 0, hours 1, meet 0 1 = NONE");
        book.run("99x hours 100, hours 99, being 0 0, being 0 1, set 0 2 1, meet 0 1 = 1");
        book.says(21, "BEYOND: also one and the same.");
        book.run("being 0 0, being 0 0, meet 0 0 = BEYOND, meet 1 1 = BEYOND, meet 2 2 = BEYOND");
        book.run("meet 0 1 = BEYOND, being 0 0, meet 0 1 = BEYOND, meet 1 0 = BEYOND, being 0 0, meet 0 1 = 0, meet 0 2 = BEYOND, meet 2 0 = BEYOND");
        book.run("2x being 0 0, meet -1 0 = BEYOND, meet 0 -1 = BEYOND, meet MIN 0 = BEYOND, meet 0 MAX = BEYOND, meet MAX MAX = BEYOND");
        book.run("10x being 0 0, meet 10 0 = BEYOND, meet 0 10 = BEYOND, meet 9 0 = 0");
        book.says(21, "NONE.");
        book.run("being 0 0, being 0 1, meet 0 1 = NONE, set 0 2 1, set 1 2 0, meet 0 1 = NONE, meet 1 0 = NONE");
    }
}
