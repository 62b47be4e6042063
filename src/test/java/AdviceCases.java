/** Promises 25 to 31: what to hang, what to eat. */
final class AdviceCases {
    static void run(Book book) {
        hang(book);
        meal(book);
        needed(book);
        whom(book);
        goal(book);
        kind(book);
        fasted(book);
    }

    private static void hang(Book book) {
        book.says(25, "The PLACE where v (1 to 99) more of a BOWL (99 there at most) lets most TASKS be DONE;");
        book.run("task 15 0 1, hang 1 = 15, hang 99 = 15, now 2 = 0");
        book.run("task 9 0 99, hang 98 = 0, hang 99 = 9, bowl 9 1, hang 98 = 9, hang 97 = 0");
        book.run("task 9 10 5, hang 14 = 0, hang 15 = 9");
        book.run("task 3 0 1, task 9 0 1, task 9 0 2, hang 1 = 3, hang 2 = 9");
        // 99 at most: one more than 99 would make the 99 hours that a task at hour 99 needs.
        book.run("task 9 99 1, hang 99 = 0, bowl 9 99, hang 99 = 0");
        book.run("bowl 9 50, task 9 50 50, hang 99 = 0, task 9 50 49, hang 99 = 9, hang 48 = 0, hang 49 = 9");
        // What is done by beings counts with it, and a bowl lights its own place alone.
        book.run("being 0 8, task 9 0 12, hang 1 = 0, hang 2 = 9");
        book.says(25, "of several the least.");
        book.run("hang 1 = 0, hang 99 = 0, task 15 0 1, task 14 0 1, hang 1 = 14, task 0 0 1, hang 1 = 0");
        book.run("bowl 5 9, task 5 0 1, hang 9 = 0");
        book.says(25, "BEYOND.");
        book.run("hang 0 = BEYOND, hang -1 = BEYOND, hang 100 = BEYOND, hang MIN = BEYOND, hang MAX = BEYOND");
    }

    private static void meal(Book book) {
        book.says(26, "The least MEAL (0 to 99) that a BEING must eat now so that a TASK is DONE.");
        book.run("being 0 0, task 0 0 99, meal 0 0 = 99, bowl 0 98, meal 0 0 = 1, bowl 0 99, meal 0 0 = 0, of 0 3 = 20");
        book.run("being 0 0, set 0 4 999, task 0 98 1, meal 0 0 = 99, of 0 4 = 999");
        book.run("being 2 0, set 0 4 9, task 0 5 1, task 0 6 1, meal 0 0 = 6, meal 0 1 = NONE");
        book.run("being 3 0, task 1 0 9, meal 0 0 = 6, task 15 0 4, meal 0 1 = 86, task 15 0 5, meal 0 2 = NONE");
        // Eating nothing is a meal, too: the one it had is gone.
        book.run("being 0 0, being 0 0, task 0 0 20, meal 0 0 = 0, task 0 0 21, meal 0 1 = 1, task 0 0 40, meal 0 2 = 20");
        book.run("being 1 0, being 1 0, task 0 0 45, meal 0 0 = 10, set 1 1 1, meal 0 0 = 35");
        book.run("being 0 0, being 3 15, task 15 0 9, task 0 0 9, meal 1 0 = 3, meal 0 0 = 0, meal 1 1 = 0, meal 0 1 = 9");
        book.says(26, "BEYOND: being, task.");
        book.run("task 0 0 1, meal 0 0 = BEYOND, being 0 0, meal 1 0 = BEYOND, meal -1 0 = BEYOND, meal MIN 0 = BEYOND, meal MAX 0 = BEYOND");
        book.run("being 0 0, meal 0 0 = BEYOND, task 0 0 1, meal 0 1 = BEYOND, meal 0 -1 = BEYOND, meal 0 MIN = BEYOND, meal 0 MAX = BEYOND");
        book.run("10x being 0 0, 8x task 0 0 1, meal 10 0 = BEYOND, meal 0 8 = BEYOND, meal 9 7 = 0");
        book.says(26, "NONE.");
        book.run("being 0 0, task 1 0 50, meal 0 0 = NONE, task 1 0 49, meal 0 1 = 98");
        book.run("being 0 0, task 0 99 1, meal 0 0 = NONE, task 0 0 1, hours 1, meal 0 0 = 99, meal 0 1 = NONE, bowl 0 99, meal 0 1 = NONE, meal 0 0 = 0");
        book.run("being 5 0, task 0 0 1, meal 0 0 = NONE, of 0 3 = 20");
    }

    private static void needed(Book book) {
        book.says(27, "The BEING without which most TASKS fewer are DONE, fewer than now;");
        book.run("being 0 0, being 0 15, task 15 0 1, needed = 1, task 0 0 1, task 0 0 20, needed = 0");
        book.run("being 0 0, being 0 0, task 0 0 20, needed = NONE, task 0 0 21, needed = 0, set 1 3 21, needed = 1, set 0 3 1, needed = 1");
        book.run("10x being 5 0, turn 9 0, task 0 0 1, needed = 9");
        // Without one that sings, another one sings alone.
        book.run("being 4 0, being 1 0, set 0 3 30, set 1 3 1, task 0 0 90, needed = 0, task 0 0 1, set 0 3 99, needed = 0");
        book.run("being 5 1, being 1 0, being 1 0, set 2 3 0, task 0 0 30, needed = 1");
        book.says(27, "of several the least.");
        book.run("3x being 0 0, turn 0 5, task 0 0 40, needed = 1");
        book.run("being 0 3, being 0 12, task 12 0 9, task 3 0 9, needed = 0");
        book.says(27, "NONE.");
        book.run("needed = NONE, being 0 0, needed = NONE, task 0 0 21, needed = NONE, task 0 0 20, needed = 0, bowl 0 20, needed = 0, "
            + "bowl 0 21, needed = NONE, hours 1, needed = NONE");
    }

    private static void whom(Book book) {
        book.says(28, "BEINGS without each of which a TASK wouldn't be DONE, as a set");
        book.run("10x being 0 0, task 0 0 81, whom 0 = {}, 9x set 0 3 20, set 0 3 0, set 1 3 0, set 2 3 0, set 3 3 0, set 4 3 0, whom 0 = {5 6 7 8 9}");
        book.run("being 0 0, being 0 15, task 0 0 20, task 15 0 20, whom 0 = {0}, whom 1 = {1}, bowl 0 1, whom 0 = {0}, bowl 0 20, whom 0 = {}");
        book.run("being 1 0, being 4 0, set 1 3 0, task 0 0 30, whom 0 = {0 1}, turn 1 0, whom 0 = {}");
        book.run("being 0 15, set 0 2 0, task 0 6 14, whom 0 = {0}, task 0 5 7, whom 1 = {0}");
        book.says(28, "(0, if it isn't).");
        book.run("being 0 0, task 0 0 21, whom 0 = 0, task 0 99 1, whom 1 = 0, task 0 0 20, whom 2 = 1, hours 1, whom 2 = 0");
        book.run("task 0 0 1, whom 0 = 0, bowl 0 1, whom 0 = 0");
        book.says(28, "BEYOND.");
        book.run("whom 0 = BEYOND, task 0 0 1, whom 1 = BEYOND, whom -1 = BEYOND, whom MIN = BEYOND, whom MAX = BEYOND");
        book.run("8x task 0 0 1, whom 8 = BEYOND, whom 7 = 0");
    }

    private static void goal(Book book) {
        book.says(29, "The PLACE that a BEING should have as its GOAL so that most TASKS are DONE;");
        book.run("being 0 0, task 15 6 14, goal 0 = 15, of 0 2 = 0, task 0 9 11, goal 0 = 0, task 0 10 10, goal 0 = 0");
        book.run("being 0 15, task 0 6 14, goal 0 = 0, task 15 1 19, task 15 2 18, goal 0 = 15");
        // By row first: the one that goes to 5 stands at 4 on its way.
        book.run("being 0 0, task 4 1 19, task 5 2 18, goal 0 = 5, task 9 3 17, goal 0 = 5, task 9 4 16, goal 0 = 9");
        book.run("being 1 0, being 1 9, task 9 3 50, goal 0 = 9, goal 1 = 0");
        book.says(29, "of several the least.");
        book.run("being 0 9, goal 0 = 0, task 9 0 20, goal 0 = 0, task 9 0 21, goal 0 = 0, task 9 1 19, goal 0 = 9");
        book.run("being 0 0, task 15 0 1, goal 0 = 0, task 15 5 7, goal 0 = 11");
        book.says(29, "BEYOND.");
        book.run("goal 0 = BEYOND, being 0 0, goal 1 = BEYOND, goal -1 = BEYOND, goal MIN = BEYOND, goal MAX = BEYOND");
        book.run("10x being 0 0, goal 10 = BEYOND, goal 9 = 0");
    }

    private static void kind(Book book) {
        book.says(30, "The KIND as one of which a BEING lets most TASKS be DONE;");
        book.run("being 5 0, task 0 0 20, kind 0 = 0, task 0 0 21, kind 0 = 3, task 0 0 60, kind 0 = 3, task 0 0 61, kind 0 = 3, of 0 0 = 5");
        book.run("being 0 0, being 1 0, task 0 0 60, kind 0 = 1, task 0 0 61, kind 0 = 3, task 0 0 81, kind 0 = 4, task 0 0 90, kind 0 = 4");
        book.run("being 5 0, being 1 0, task 0 0 30, kind 0 = 0, eat 0 0, kind 0 = 1");
        book.run("being 0 0, being 0 15, task 15 0 21, kind 1 = 3, kind 0 = 0, task 0 0 21, kind 0 = 3, kind 1 = 3, turn 0 3, kind 1 = 3, kind 0 = 3");
        book.says(30, "of several the least.");
        book.run("being 5 0, kind 0 = 0, task 0 0 61, kind 0 = 0, task 0 0 40, kind 0 = 3");
        book.run("being 3 0, being 3 0, task 0 0 99, kind 0 = 3, task 0 0 80, kind 0 = 3");
        book.says(30, "BEYOND.");
        book.run("kind 0 = BEYOND, being 0 0, kind 1 = BEYOND, kind -1 = BEYOND, kind MIN = BEYOND, kind MAX = BEYOND");
        book.run("10x being 0 0, kind 10 = BEYOND, kind 9 = 0");
    }

    private static void fasted(Book book) {
        book.says(31, "FASTS (0 to 99, as few as can be, in place of what it is) by which LIGHT of a PLACE is just v.");
        book.run("being 0 0, fasted 0 0 20 = 0, fasted 0 0 19 = 1, fasted 0 0 0 = 20, fasted 0 1 9 = 1, fasted 0 1 0 = 19, fasted 0 15 0 = 0");
        book.run("being 0 0, set 0 3 99, set 0 4 999, fasted 0 0 99 = 0, fasted 0 0 1 = 98, fasted 0 0 0 = 99, of 0 4 = 999");
        book.run("being 2 0, set 0 3 99, fasted 0 0 94 = 5, fasted 0 0 93 = NONE, fasted 0 0 0 = 6");
        book.run("being 3 0, bowl 0 5, being 0 0, fasted 0 0 85 = 0, fasted 0 0 25 = 20, fasted 0 0 26 = NONE, fasted 0 0 28 = 19");
        book.run("being 5 0, bowl 0 7, fasted 0 0 7 = 0, fasted 0 0 6 = NONE");
        book.run("being 0 0, being 3 15, set 1 4 3, fasted 1 15 0 = 20, fasted 0 15 0 = NONE, fasted 1 15 51 = 3, fasted 0 15 51 = 0, of 1 4 = 3");
        book.says(31, "BEYOND: being, place.");
        book.run("fasted 0 0 0 = BEYOND, being 0 0, fasted 1 0 0 = BEYOND, fasted -1 0 0 = BEYOND, fasted MIN 0 0 = BEYOND, fasted MAX 0 0 = BEYOND");
        book.run("being 0 0, fasted 0 -1 0 = BEYOND, fasted 0 16 0 = BEYOND, fasted 0 MIN 0 = BEYOND, fasted 0 MAX 0 = BEYOND, fasted 1 16 0 = BEYOND");
        book.run("10x being 0 0, fasted 10 0 0 = BEYOND, fasted 9 0 200 = 0");
        book.says(31, "NONE.");
        book.run("being 0 0, fasted 0 0 21 = NONE, fasted 0 0 -1 = NONE, fasted 0 0 MIN = NONE, fasted 0 0 MAX = NONE, status 3 = 4, of 0 4 = 0");
        book.run("being 0 0, bowl 0 3, fasted 0 0 2 = NONE, fasted 0 0 3 = 20");
    }
}
