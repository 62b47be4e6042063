/** Promises 41 to 45: images, counts, status. */
final class ImageCases {
    static void run(Book book) {
        image(book);
        undo(book);
        tear(book);
        count(book);
        status(book);
    }

    private static void image(Book book) {
        book.says(41, "All that section 1 tells (THE TAPE not) is kept: 1.");
        book.run("being 3 9, bowl 4 50, task 1 2 3, hours 5, set 0 2 15, image = 1, turn 0 0, set 0 1 0, set 0 2 1, set 0 3 2, set 0 4 3, bowl 4 9, "
            + "bowl 15 8, hours 10, being 0 0, task 4 5 6, undo = 1, of 0 0 = 3, of 0 1 = 9, of 0 2 = 15, of 0 3 = 20, of 0 4 = 5, now 2 = 45, "
            + "now 0 = 5, count 0 = 1, count 1 = 1, taskOf 0 0 = 1, taskOf 0 1 = 2, taskOf 0 2 = 3");
        book.run("image = 1, feed 0 3, undo = 0, count 2 = 3, wipe, undo = 0, count 2 = 0");
        book.run("10x being 4 0, 8x task 15 99 99, image = 1, set 9 3 0, undo = 10, of 9 3 = 20, count 1 = 8, taskOf 7 1 = 99");
        // Sheets are told by section 3: they stay as they are.
        book.run("sheet 0 8 2, write 0 1 5, image = 1, write 0 1 6, sheet 1 8 1, undo = 0, write 0 1 0 = 6, write 1 0 0 = 0");
        // An image of nothing is one, too.
        book.run("image = 1, being 0 0, bowl 0 9, task 0 0 1, hours 1, undo = 0, count 0 = 0, count 1 = 0, now 0 = 0, now 2 = 0");
    }

    private static void undo(Book book) {
        book.says(42, "It becomes what was kept latest (which stays): how many BEINGS.");
        book.run("being 0 0, image, being 0 0, image, being 0 0, undo = 2, being 0 0, being 0 0, undo = 2, undo = 2, count 0 = 2");
        book.run("being 0 0, image, eat 0 5, undo = 1, eat 0 6, undo = 1, of 0 3 = 20, set 0 3 9, undo = 1, of 0 3 = 20");
        book.run("99x hours 100, image, hours 99, hours 1 = STATE, undo = 0, now 0 = 9900, hours 99 = 0");
        book.run("9x being 0 0, image, being 0 0, being 0 0 = FULL, undo = 9, being 0 0 = 9, being 0 0 = FULL");
        book.run("being 0 0, image, night = -1, undo = 1\ntape herd at 1|\nnight = 1, undo = 1, count 0 = 1");
        book.says(42, "NONE: nothing is kept.");
        book.run("undo = NONE, being 0 0, undo = NONE, count 0 = 1, image, tear, undo = NONE, count 0 = 1, status 3 = 3");
    }

    private static void tear(Book book) {
        book.says(43, "Nothing is kept: 1 if something was, else 0.");
        book.run("tear = 0, image, tear = 1, tear = 0, undo = NONE, image, image, tear = 1, tear = 0, image, undo = 0, tear = 1");
        book.run("being 0 0, image, being 0 0, tear = 1, count 0 = 2, undo = NONE, image, being 0 0, undo = 2, status -1 = 1");
    }

    private static void count(Book book) {
        book.says(44, "0 BEINGS, 1 TASKS, 2 bytes of THE TAPE, 3 MEALS of all together.");
        book.run("count 0 = 0, count 1 = 0, count 2 = 0, count 3 = 0");
        book.run("10x being 3 0, 8x task 0 0 1, 30x feed 0 4, count 0 = 10, count 1 = 8, count 2 = 120, count 3 = 200, set 9 3 99, count 3 = 279, hours 50, count 3 = 279");
        book.run("image, 3x being 0 0, count 3 = 60, undo, count 3 = 0, being 5 0, count 3 = 20");
        book.says(44, "BEYOND: another what.");
        book.run("count -1 = BEYOND, count 4 = BEYOND, count MIN = BEYOND, count MAX = BEYOND");
    }

    private static void status(Book book) {
        book.says(45, "How many acts answered a finding ever (undo() takes none back):");
        book.run("status -1 = 0, image, light 16 = BEYOND, status -1 = 1, undo, status -1 = 1, status 0 = 1, tear, undo = NONE, status -1 = 2");
        book.run("light 16, image, 3x light 16, undo, undo, status 0 = 4, wipe, night, status -1 = 4");
        book.run("400x light -1, status -1 = 400, status 0 = 400");
        book.says(45, "which -1: all, 0 to 6: BEYOND to SIZE.");
        book.run("status -1 = 0, status 0 = 0, status 1 = 0, status 2 = 0, status 3 = 0, status 4 = 0, status 5 = 0, status 6 = 0");
        book.run("light 16, 9x being 0 0, being 0 0, 2x being 0 0, 3x as 0 1, 4x undo, 97x hours 100, 2x hours 100, 5x hours 100, 6x map 0, 7x sheet 0 0 -1, "
            + "status 0 = 1, status 1 = 2, status 2 = 3, status 3 = 4, status 4 = 5, status 5 = 6, status 6 = 7, status -1 = 28");
        book.says(45, "BEYOND (counted from then on): another one.");
        book.run("status 7 = BEYOND, status 0 = 1, status -2 = BEYOND, status 0 = 2, status MIN = BEYOND, status MAX = BEYOND, status 0 = 4, status -1 = 4");
    }
}
