/** Promises 22 to 24: ways by places that are one step apart. */
final class WayCases {
    /** Place 0 can be left by 1 (of 30) and by 4 (of 20) alone. */
    private static final String HEMMED = "bowl 1 30, bowl 4 20, bowl 8 40\n";
    /** A way that winds: 4 5 6 and 9 10 11 are walls, with gates at 7 and 8. */
    private static final String WINDING = "bowl 4 9, bowl 5 9, bowl 6 9, bowl 9 9, bowl 10 9, bowl 11 9\n";

    static void run(Book book) {
        stealth(book);
        way(book);
        first(book);
    }

    private static void stealth(Book book) {
        book.says(22, "Ways go from one PLACE to another one by PLACES that are one STEP apart, LIGHT being as it is now.");
        // What will be lit later counts nothing, and no way goes aslant or around a row's end.
        book.run("being 3 1, set 0 2 13, bowl 12 50, stealth 0 0 = 30, stealth 12 12 = 53, hours 3, stealth 0 0 = 3");
        book.run("bowl 1 7, bowl 4 8, stealth 0 5 = 7, stealth 5 0 = 7");
        book.run("bowl 2 7, bowl 7 8, stealth 3 4 = 7, stealth 4 3 = 7");
        book.says(22, "The least that LIGHT of the brightest PLACE on a way (both ends, too) can be.");
        book.run("stealth 0 15 = 0, stealth 7 7 = 0");
        book.run(HEMMED + "stealth 0 15 = 20, stealth 15 0 = 20, stealth 8 15 = 40, stealth 15 8 = 40, stealth 8 8 = 40, stealth 2 12 = 0");
        book.run("bowl 0 99, stealth 0 15 = 99, stealth 15 0 = 99, stealth 1 15 = 0, stealth 0 1 = 99, stealth 0 0 = 99");
        // A longer way may be the darker one.
        book.run("bowl 1 9, bowl 5 8, bowl 9 7, stealth 0 2 = 0, bowl 13 6, stealth 0 2 = 6, stealth 2 0 = 6");
        book.run(WINDING + "bowl 3 1, stealth 0 15 = 9, stealth 0 7 = 1, stealth 12 8 = 0, stealth 7 8 = 9");
        book.run("10x being 3 5, bowl 5 99, stealth 5 5 = 699, stealth 0 5 = 699, stealth 0 15 = 300");
        // Each corner has two gates; the darker one is gone by.
        book.run("bowl 11 9, bowl 14 8, stealth 0 15 = 8, stealth 15 0 = 8, bowl 11 7, stealth 0 15 = 7");
        book.run("bowl 1 9, bowl 4 8, stealth 0 15 = 8, bowl 2 9, bowl 7 8, stealth 3 12 = 8, bowl 8 9, bowl 13 7, stealth 12 3 = 8, stealth 12 10 = 7");
        book.run("bowl 0 5, bowl 2 9, bowl 5 9, stealth 1 4 = 5, stealth 4 1 = 5, stealth 1 0 = 5");
        book.says(22, "BEYOND.");
        book.run("stealth -1 0 = BEYOND, stealth 16 0 = BEYOND, stealth 0 -1 = BEYOND, stealth 0 16 = BEYOND");
        book.run("stealth MIN 0 = BEYOND, stealth MAX 0 = BEYOND, stealth 0 MIN = BEYOND, stealth 0 MAX = BEYOND, stealth 16 16 = BEYOND");
    }

    private static void way(Book book) {
        book.says(23, "The fewest STEPS of such a way, on which no PLACE is brighter than v (0 to 9999).");
        book.run("way 0 15 0 = 6, way 15 0 9999 = 6, way 3 12 0 = 6, way 0 1 0 = 1, way 7 7 0 = 0");
        book.run(HEMMED + "way 0 2 20 = 4, way 0 2 30 = 2, way 0 15 20 = 6, way 0 12 20 = 5, way 0 12 40 = 3, way 2 12 0 = 5");
        book.run("bowl 4 9, bowl 5 9, bowl 6 9, bowl 8 9, bowl 10 9, bowl 11 9, bowl 7 8, bowl 9 7, way 0 12 8 = NONE, way 0 12 9 = 3");
        book.run("bowl 4 9, bowl 5 9, bowl 6 9, bowl 9 9, bowl 10 9, bowl 11 9, way 7 0 8 = 4, way 8 15 8 = 4, way 7 8 9 = 4, way 0 15 9 = 6");
        book.run("bowl 1 9, bowl 5 9, bowl 9 9, way 0 2 8 = 8, way 0 3 8 = 9, way 0 14 8 = 5, way 0 2 9 = 2");
        book.run("bowl 7 99, way 7 7 99 = 0, way 6 7 99 = 1, way 7 6 99 = 1, way 6 8 98 = 3");
        book.says(23, "BEYOND.");
        book.run("way -1 0 0 = BEYOND, way 16 0 0 = BEYOND, way 0 -1 0 = BEYOND, way 0 16 0 = BEYOND, way 0 0 -1 = BEYOND, way 0 0 10000 = BEYOND");
        book.run("way MIN 0 0 = BEYOND, way MAX 0 0 = BEYOND, way 0 MIN 0 = BEYOND, way 0 MAX 0 = BEYOND, way 0 0 MIN = BEYOND, way 0 0 MAX = BEYOND");
        book.says(23, "NONE.");
        book.run(HEMMED + "way 0 15 19 = NONE, way 15 0 19 = NONE, way 8 9 39 = NONE, way 9 8 39 = NONE, way 8 8 39 = NONE, way 8 8 40 = 0");
        book.run("bowl 15 1, way 15 15 0 = NONE, way 0 15 0 = NONE, way 15 0 0 = NONE, way 0 14 0 = 5, status 3 = 3");
    }

    private static void first(Book book) {
        book.says(24, "The first PLACE on the first such way (by PLACES, the least first).");
        book.run("first 0 15 0 = 1, first 15 0 9999 = 11, first 3 12 0 = 2, first 12 3 0 = 8, first 5 10 0 = 6, first 10 5 0 = 6, "
            + "first 6 9 0 = 5, first 9 6 0 = 5");
        book.run("first 14 15 0 = 15, first 1 0 0 = 0, first 4 0 0 = 0, first 5 1 0 = 1, first 5 4 0 = 4, first 5 9 0 = 9");
        // Of the shortest ways alone: 1 would be less than 4, but farther.
        book.run("first 5 12 0 = 4, first 5 13 0 = 9, first 4 13 0 = 5");
        book.run(HEMMED + "first 0 15 20 = 4, first 0 15 30 = 1, first 0 2 20 = 4, first 0 2 30 = 1, first 1 4 30 = 0, first 1 8 40 = 0");
        book.run("bowl 1 9, bowl 5 9, bowl 9 9, first 0 2 8 = 4, first 0 2 9 = 1, first 2 0 8 = 6, first 13 2 8 = 14");
        book.says(24, "BEYOND.");
        book.run("first -1 0 0 = BEYOND, first 16 0 0 = BEYOND, first 0 -1 0 = BEYOND, first 0 16 0 = BEYOND, first 0 0 -1 = BEYOND, first 0 0 10000 = BEYOND");
        book.run("first MIN 0 0 = BEYOND, first MAX 0 0 = BEYOND, first 0 MIN 0 = BEYOND, first 0 MAX 0 = BEYOND, first 0 1 MIN = BEYOND, first 0 1 MAX = BEYOND");
        book.says(24, "NONE: there is none, or they are one and the same.");
        book.run("first 0 0 0 = NONE, first 15 15 9999 = NONE, status 3 = 2");
        book.run(HEMMED + "first 0 15 19 = NONE, first 15 0 19 = NONE, first 8 9 39 = NONE, first 9 8 39 = NONE, first 8 8 39 = NONE, first 8 8 40 = NONE");
        // Even where its neighbours are too bright.
        book.run(HEMMED + "first 0 0 0 = NONE, first 5 5 0 = NONE, first 0 0 19 = NONE, first 9 9 39 = NONE");
    }
}
