/** Promises 1 to 5: a new object, and the town. */
final class TownCases {
    static void run(Book book) {
        newObject(book);
        bowl(book);
        light(book);
        brightest(book);
        lit(book);
    }

    private static void newObject(Book book) {
        book.says(1, "No BEINGS, TASKS, no BOWLS;");
        book.run("count 0 = 0, count 1 = 0, count 3 = 0, now 0 = 0, now 1 = 0, now 2 = 0, now 3 = 0, now 4 = {}, now 5 = {}");
        book.run("of 0 0 = BEYOND, taskOf 0 0 = BEYOND, lit 1 = {}, seen 0 = {}, being 0 0 = 0, task 0 0 1 = 0");
        book.says(1, "THE TAPE is empty,");
        book.run("count 2 = 0, wipe = 0, feed 0 1 = 1");
        book.says(1, "no image is kept.");
        book.run("undo = NONE, tear = 0, undo = NONE");
    }

    private static void bowl(Book book) {
        book.says(2, "BOWL of a PLACE becomes v: what it was.");
        book.run("bowl 0 5 = 0, bowl 0 99 = 5, bowl 0 0 = 99, bowl 0 0 = 0, bowl 15 7 = 0, light 15 = 7, light 14 = 0");
        book.run("bowl 3 9, hours 4, bowl 3 1 = 5, hours 9, bowl 3 1 = 0");
        book.says(2, "BEYOND.");
        book.run("bowl -1 5 = BEYOND, bowl 16 5 = BEYOND, bowl MIN 5 = BEYOND, bowl MAX 5 = BEYOND");
        book.run("bowl 0 -1 = BEYOND, bowl 0 100 = BEYOND, bowl 0 MIN = BEYOND, bowl 0 MAX = BEYOND, bowl 0 356 = BEYOND");
        book.run("bowl 16 100 = BEYOND, bowl -1 -1 = BEYOND, status 0 = 2, now 2 = 0");
    }

    private static void light(Book book) {
        book.says(3, "LIGHT of a PLACE.");
        book.run("light 0 = 0, bowl 0 99, light 0 = 99, being 0 0, light 0 = 119, light 1 = 10, light 15 = 0");
        book.run("10x being 3 15, eat 0 99, eat 1 99, bowl 15 99, light 15 = 1173, light 0 = 8, light 14 = 536");
        book.says(3, "BEYOND.");
        book.run("light -1 = BEYOND, light 16 = BEYOND, light MIN = BEYOND, light MAX = BEYOND");
    }

    private static void brightest(Book book) {
        book.says(4, "The brightest PLACE;");
        book.run("bowl 15 1, brightest = 15, bowl 0 2, brightest = 0, bowl 1 3, brightest = 1, being 3 9, brightest = 9");
        book.run("bowl 15 99, being 0 4, brightest = 15, eat 0 99, bowl 4 2, brightest = 15, bowl 4 4, brightest = 4");
        book.says(4, "of several the least.");
        book.run("brightest = 0");
        book.run("bowl 14 5, bowl 15 5, brightest = 14, bowl 1 5, brightest = 1, bowl 0 5, brightest = 0");
        book.run("being 5 9, brightest = 0, being 0 5, being 0 6, brightest = 5");
    }

    private static void lit(Book book) {
        book.says(5, "PLACES with LIGHT v (0 to 9999) or more, as a set.");
        book.run("lit 0 = 65535, lit 1 = {}, bowl 15 9, bowl 0 8, lit 8 = {0 15}, lit 9 = {15}, lit 10 = {}, lit 9999 = {}");
        book.run("being 0 0, lit 20 = {0}, lit 10 = {0 1 4}, lit 5 = {0 1 2 4 5 8}, lit 1 = {0 1 2 3 4 5 6 7 8 9 10 12 13}");
        book.says(5, "BEYOND.");
        book.run("lit -1 = BEYOND, lit 10000 = BEYOND, lit MIN = BEYOND, lit MAX = BEYOND");
    }
}
