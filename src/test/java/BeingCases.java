/** Promises 6 to 13: beings. */
final class BeingCases {
    private static final String THREE = "being 0 0, being 3 9, being 4 15\n";

    static void run(Book book) {
        being(book);
        of(book);
        set(book);
        turn(book);
        as(book);
        eat(book);
        gives(book);
        seen(book);
    }

    private static void being(Book book) {
        book.says(6, "A new BEING: its number.");
        book.run("being 0 0 = 0, being 5 15 = 1, of 1 0 = 5, of 1 1 = 15, count 0 = 2, 7x being 1 1, being 2 2 = 9");
        // Nothing is left of one that undo() took back.
        book.run("image, being 3 9, set 0 2 1, set 0 3 5, set 0 4 9, undo, being 0 7 = 0, of 0 0 = 0, of 0 1 = 7, of 0 2 = 7, of 0 3 = 20, of 0 4 = 0");
        book.says(6, "BEYOND: kind, place.");
        book.run("being -1 0 = BEYOND, being 6 0 = BEYOND, being MIN 0 = BEYOND, being MAX 0 = BEYOND");
        book.run("being 0 -1 = BEYOND, being 0 16 = BEYOND, being 0 MIN = BEYOND, being 0 MAX = BEYOND, being 6 16 = BEYOND, count 0 = 0");
        book.says(6, "FULL.");
        book.run("9x being 0 0, being 0 0 = 9, being 0 0 = FULL, being 5 15 = FULL, count 0 = 10, status 1 = 2");
    }

    private static void of(Book book) {
        book.says(7, "Of a BEING: what 0 KIND, 1 AT, 2 GOAL, 3 MEAL, 4 FASTS, 5 SHINES, 6 STEPS to its GOAL.");
        book.run(THREE + "set 1 1 2, set 1 2 15, set 1 3 50, set 1 4 7, of 1 0 = 3, of 1 1 = 2, of 1 2 = 15, of 1 3 = 50, of 1 4 = 7, "
            + "of 1 5 = 129, of 1 6 = 4, of 0 0 = 0, of 2 0 = 4, of 2 5 = 40, of 2 6 = 0");
        book.run("10x being 5 0, of 9 0 = 5, of 9 3 = 20, of 0 6 = 0");
        book.says(7, "BEYOND.");
        book.run("of 0 0 = BEYOND, being 0 0, of 0 0 = 0, of 1 0 = BEYOND, of -1 0 = BEYOND, of MIN 0 = BEYOND, of MAX 0 = BEYOND");
        book.run("being 0 0, of 0 -1 = BEYOND, of 0 7 = BEYOND, of 0 MIN = BEYOND, of 0 MAX = BEYOND, of 1 7 = BEYOND, status 0 = 5");
        book.run("10x being 0 0, of 10 0 = BEYOND, of 10 5 = BEYOND, of 10 6 = BEYOND");
        // One that is gone by undo() is there no more.
        book.run("image, being 0 0, of 0 0 = 0, undo, of 0 0 = BEYOND, of 0 5 = BEYOND");
    }

    private static void set(Book book) {
        book.says(8, "AT (what 1), GOAL (2), MEAL (3), FASTS (4) of a BEING becomes v: what it was.");
        book.run(THREE + "set 1 1 0 = 9, set 1 1 15 = 0, set 1 2 0 = 9, set 1 2 15 = 0, set 1 3 0 = 20, set 1 3 99 = 0, "
            + "set 1 4 999 = 0, set 1 4 0 = 999, of 1 1 = 15, of 1 2 = 15, of 1 3 = 99, of 1 4 = 0, of 0 3 = 20, of 2 3 = 20");
        book.run("being 0 5, set 0 1 5 = 5, set 0 3 20 = 20, set 0 4 0 = 0, set 0 2 5 = 5");
        // What eats anew is eat() alone: a meal that is set leaves the hours since.
        book.run("being 0 0, set 0 4 9, set 0 3 50 = 20, of 0 4 = 9, of 0 5 = 41");
        book.says(8, "BEYOND.");
        book.run("being 0 0, set 0 1 -1 = BEYOND, set 0 1 16 = BEYOND, set 0 1 MIN = BEYOND, set 0 1 MAX = BEYOND");
        book.run("being 0 0, set 0 2 -1 = BEYOND, set 0 2 16 = BEYOND, set 0 2 MIN = BEYOND, set 0 2 MAX = BEYOND");
        book.run("being 0 0, set 0 3 -1 = BEYOND, set 0 3 100 = BEYOND, set 0 3 MIN = BEYOND, set 0 3 MAX = BEYOND");
        book.run("being 0 0, set 0 4 -1 = BEYOND, set 0 4 1000 = BEYOND, set 0 4 MIN = BEYOND, set 0 4 MAX = BEYOND");
        book.run("being 0 0, set 0 0 0 = BEYOND, set 0 5 0 = BEYOND, set 0 6 0 = BEYOND, set 0 -1 0 = BEYOND, set 0 MIN 0 = BEYOND, set 0 MAX 0 = BEYOND");
        book.run("set 0 1 1 = BEYOND, being 0 0, set 1 1 1 = BEYOND, set -1 1 1 = BEYOND, set MIN 1 1 = BEYOND, set MAX 1 1 = BEYOND");
        book.run("10x being 0 0, set 10 1 1 = BEYOND, set 9 1 1 = 0");
    }

    private static void turn(Book book) {
        book.says(9, "A BEING becomes one of another KIND: what it was.");
        book.run(THREE + "turn 1 5 = 3, turn 1 0 = 5, turn 1 4 = 0, of 1 0 = 4, of 0 0 = 0, of 2 0 = 4, of 1 1 = 9, of 1 3 = 20");
        book.run("being 2 0, set 0 4 6, set 0 3 30, of 0 5 = 0, turn 0 3 = 2, of 0 5 = 72, of 0 4 = 6");
        book.run("being 2 0, turn 0 2 = 2, of 0 0 = 2, status -1 = 0");
        book.says(9, "BEYOND.");
        book.run("turn 0 0 = BEYOND, being 0 0, turn 1 0 = BEYOND, turn -1 0 = BEYOND, turn MIN 0 = BEYOND, turn MAX 0 = BEYOND");
        book.run("being 0 0, turn 0 -1 = BEYOND, turn 0 6 = BEYOND, turn 0 MIN = BEYOND, turn 0 MAX = BEYOND, of 0 0 = 0");
        book.run("10x being 0 0, turn 10 1 = BEYOND, turn 9 1 = 0");
    }

    private static void as(Book book) {
        book.says(10, "A BEING as one of a kind: MEAL.");
        book.run("being 4 0, set 0 3 99, set 0 4 50, as 0 4 = 99, as 0 1 = 99, as 0 0 = 99, set 0 3 0, as 0 0 = 0");
        book.run("being 0 0, being 4 0, set 1 3 50, as 1 4 = 50, as 1 0 = 50, as 0 0 = 20, as 0 4 = KIND, as 1 3 = KIND");
        book.says(10, "BEYOND: no such one, kind.");
        book.run("as 0 0 = BEYOND, being 0 0, as 1 0 = BEYOND, as -1 0 = BEYOND, as MIN 0 = BEYOND, as MAX 0 = BEYOND");
        book.run("being 0 0, as 0 -1 = BEYOND, as 0 6 = BEYOND, as 0 MIN = BEYOND, as 0 MAX = BEYOND, as 1 6 = BEYOND");
        book.run("10x being 0 0, as 10 0 = BEYOND, as 9 0 = 20");
        book.says(10, "KIND: it isn't of that kind, nor of one under it.");
        book.run("being 0 0, as 0 1 = KIND, as 0 2 = KIND, as 0 3 = KIND, as 0 4 = KIND, as 0 5 = KIND, status 2 = 5");
        book.run("being 1 0, as 0 4 = KIND, as 0 2 = KIND, turn 0 4, as 0 4 = 20, as 0 2 = KIND, as 0 5 = KIND");
        book.run("being 5 0, as 0 1 = KIND, as 0 3 = KIND, as 0 4 = KIND, as 0 2 = 20, turn 0 2, as 0 5 = KIND");
    }

    private static void eat(Book book) {
        book.says(11, "It eats: MEAL becomes v (0 to 99), FASTS 0: what it SHINES then.");
        book.run("being 0 0, set 0 4 999, eat 0 0 = 0, of 0 3 = 0, of 0 4 = 0, eat 0 99 = 99, of 0 3 = 99, eat 0 1 = 1");
        book.run("being 2 0, set 0 4 6, eat 0 9 = 9, turn 0 3, eat 0 9 = 27, turn 0 5, eat 0 9 = 0, of 0 3 = 9");
        book.run("being 1 0, being 4 0, eat 0 9 = 13, eat 1 9 = 26, set 1 1 1, eat 0 9 = 9, eat 1 9 = 18, of 0 4 = 0");
        book.says(11, "BEYOND.");
        book.run("eat 0 1 = BEYOND, being 0 0, eat 1 1 = BEYOND, eat -1 1 = BEYOND, eat MIN 1 = BEYOND, eat MAX 1 = BEYOND");
        book.run("being 0 0, set 0 4 3, eat 0 -1 = BEYOND, eat 0 100 = BEYOND, eat 0 MIN = BEYOND, eat 0 MAX = BEYOND, of 0 4 = 3, of 0 3 = 20");
        book.run("10x being 0 0, eat 10 1 = BEYOND, eat 9 1 = 1");
    }

    private static void gives(Book book) {
        book.says(12, "What it GIVES to a PLACE.");
        book.run("being 0 0, gives 0 0 = 20, gives 0 1 = 10, gives 0 4 = 10, gives 0 10 = 1, gives 0 11 = 0, gives 0 15 = 0");
        book.run("being 3 15, eat 0 99, gives 0 15 = 297, gives 0 0 = 4, turn 0 5, gives 0 15 = 0");
        book.run("being 0 0, being 3 15, gives 1 15 = 60, gives 0 15 = 0, gives 1 0 = 0, gives 1 14 = 30, gives 0 14 = 0");
        // A bowl is nobody's gift.
        book.run("being 0 0, bowl 0 50, gives 0 0 = 20, set 0 4 20, gives 0 0 = 0");
        book.says(12, "BEYOND.");
        book.run("gives 0 0 = BEYOND, being 0 0, gives 1 0 = BEYOND, gives -1 0 = BEYOND, gives MIN 0 = BEYOND, gives MAX 0 = BEYOND");
        book.run("being 0 0, gives 0 -1 = BEYOND, gives 0 16 = BEYOND, gives 0 MIN = BEYOND, gives 0 MAX = BEYOND, gives 1 16 = BEYOND");
        book.run("10x being 0 0, gives 10 0 = BEYOND, gives 9 0 = 20");
    }

    private static void seen(Book book) {
        book.says(13, "BEINGS that are seen from a PLACE (they GIVE 1 or more to it), as a set.");
        book.run("seen 0 = {}, being 0 0, seen 0 = {0}, seen 10 = {0}, seen 11 = {}, seen 15 = {}");
        book.run("being 0 0, set 0 4 19, seen 0 = {0}, seen 1 = {}, seen 4 = {}, set 0 4 20, seen 0 = {}, set 0 4 18, seen 1 = {0}, seen 2 = {}");
        book.run("10x being 5 3, turn 0 0, turn 9 0, seen 3 = {0 9}, seen 2 = {0 9}, seen 12 = {}, bowl 12 9, seen 12 = {}");
        book.says(13, "BEYOND.");
        book.run("seen -1 = BEYOND, seen 16 = BEYOND, seen MIN = BEYOND, seen MAX = BEYOND");
    }
}
