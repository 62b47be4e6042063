/** Promises 35 to 40: sheets. */
final class SheetCases {
    static void run(Book book) {
        sheet(book);
        write(book);
        copy(book);
        lays(book);
        map(book);
        read(book);
    }

    private static void sheet(Book book) {
        book.says(35, "A sheet has n numbers, all 0, of 8, 16 or 64 bits;");
        for (String bits : new String[] {"8", "16", "64"}) {
            book.run("sheet 0 " + bits + " 1 = 1, write 0 0 7 = 0, write 0 1 7 = BEYOND, sheet 0 " + bits + " 2 = 2, write 0 0 7 = 0, write 0 1 7 = 0");
            book.run("sheet 3 " + bits + " 40 = 40, write 3 39 7 = 0, write 3 40 7 = BEYOND, sheet 3 " + bits + " 40 = 40, write 3 39 7 = 0");
            book.run("sheet 0 " + bits + " 0 = 0, write 0 0 7 = BEYOND, map 0 = 0");
        }
        book.run("sheet 0 8 3, write 0 2 9, sheet 0 8 1, sheet 0 8 3, write 0 2 9 = 0");
        book.says(35, "bits 0: it is MISSING: n (0 if it is MISSING).");
        book.run("sheet 0 8 5 = 5, write 0 4 9, sheet 0 0 5 = 0, write 0 0 0 = MISSING, sheet 0 0 0 = 0, sheet 0 0 40 = 0, sheet 0 8 5 = 5, write 0 4 9 = 0");
        book.run("sheet 3 0 40 = 0, map 3 = MISSING, sheet 0 8 1, sheet 1 0 1, map 0 = 1");
        book.says(35, "BEYOND: no such sheet, other bits.");
        book.run("sheet -1 8 1 = BEYOND, sheet 4 8 1 = BEYOND, sheet MIN 8 1 = BEYOND, sheet MAX 8 1 = BEYOND, sheet -1 0 0 = BEYOND, sheet 4 0 0 = BEYOND");
        book.run("sheet 0 1 1 = BEYOND, sheet 0 -8 1 = BEYOND, sheet 0 7 1 = BEYOND, sheet 0 9 1 = BEYOND, sheet 0 15 1 = BEYOND, sheet 0 17 1 = BEYOND, "
            + "sheet 0 32 1 = BEYOND, sheet 0 63 1 = BEYOND, sheet 0 65 1 = BEYOND, sheet 0 MIN 1 = BEYOND, sheet 0 MAX 1 = BEYOND, map 0 = MISSING");
        book.says(35, "SIZE: n is below 0 (also with bits 0).");
        book.run("sheet 0 8 -1 = SIZE, sheet 0 16 -1 = SIZE, sheet 0 64 MIN = SIZE, sheet 0 0 -1 = SIZE, sheet 0 0 MIN = SIZE, status 6 = 5, map 0 = MISSING");
        book.run("sheet 0 8 2, sheet 0 0 -1 = SIZE, map 0 = 2, sheet 4 8 -1 = BEYOND, sheet 0 9 -1 = BEYOND");
        book.says(35, "BEYOND: n is above 40 (also with bits 0).");
        book.run("sheet 0 8 41 = BEYOND, sheet 0 16 41 = BEYOND, sheet 0 64 MAX = BEYOND, sheet 0 0 41 = BEYOND, sheet 0 0 MAX = BEYOND, map 0 = MISSING");
        book.run("sheet 0 8 2, sheet 0 0 41 = BEYOND, sheet 0 8 41 = BEYOND, map 0 = 2");
    }

    private static void write(Book book) {
        book.says(36, "Number i of a sheet becomes v (its lowest bits): what it was.");
        book.run("sheet 0 8 40, write 0 0 127 = 0, write 0 0 -128 = 127, write 0 0 128 = -128, write 0 0 255 = -128, write 0 0 256 = -1, "
            + "write 0 0 -129 = 0, write 0 0 LMAX = 127, write 0 0 LMIN = -1, write 0 0 0x7fffffffffffff41 = 0, write 0 0 0 = 65, write 0 39 5 = 0, write 0 39 6 = 5");
        book.run("sheet 0 16 40, write 0 0 32767 = 0, write 0 0 -32768 = 32767, write 0 0 32768 = -32768, write 0 0 65535 = -32768, write 0 0 65536 = -1, "
            + "write 0 0 -32769 = 0, write 0 0 LMAX = 32767, write 0 0 LMIN = -1, write 0 0 128 = 0, write 0 0 0 = 128, write 0 39 5 = 0");
        book.run("sheet 0 64 40, write 0 0 LMAX = 0, write 0 0 LMIN = LMAX, write 0 0 -1 = LMIN, write 0 0 0x100000000 = -1, write 0 0 0 = 0x100000000, write 0 39 1 = 0");
        book.run("sheet 0 64 3, sheet 1 64 3, write 0 1 5, write 0 0 0 = 0, write 0 2 0 = 0, write 1 1 0 = 0, write 0 1 0 = 5");
        book.says(36, "BEYOND: no such sheet.");
        book.run("write -1 0 0 = BEYOND, write 4 0 0 = BEYOND, write MIN 0 0 = BEYOND, write MAX 0 0 = BEYOND");
        book.says(36, "MISSING.");
        book.run("write 0 0 5 = MISSING, write 3 0 5 = MISSING, write 0 -1 5 = MISSING, write 0 40 5 = MISSING, sheet 0 8 1, sheet 0 0 1, write 0 0 5 = MISSING");
        book.says(36, "BEYOND: no such number.");
        book.run("sheet 0 8 2, write 0 -1 5 = BEYOND, write 0 2 5 = BEYOND, write 0 MIN 5 = BEYOND, write 0 MAX 5 = BEYOND, write 0 1 5 = 0");
        book.run("sheet 0 8 0, write 0 0 5 = BEYOND, sheet 0 8 40, write 0 40 5 = BEYOND, sheet 0 8 1, write 0 1 5 = BEYOND");
    }

    private static void copy(Book book) {
        String two = "sheet 0 8 5, sheet 1 8 3, write 0 0 10, write 0 1 11, write 0 2 12, write 0 3 13, write 0 4 14\n";
        book.says(37, "n numbers of a sheet from one on come to another one from one on (as they all were): n.");
        book.run(two + "copy 0 2 1 0 3 = 3, write 1 0 0 = 12, write 1 1 0 = 13, write 1 2 0 = 14, write 0 2 0 = 12");
        book.run(two + "copy 0 4 1 2 1 = 1, write 1 0 0 = 0, write 1 1 0 = 0, write 1 2 0 = 14");
        book.run(two + "copy 0 0 0 1 4 = 4, write 0 0 0 = 10, write 0 1 0 = 10, write 0 2 0 = 11, write 0 3 0 = 12, write 0 4 0 = 13");
        book.run(two + "copy 0 1 0 0 4 = 4, write 0 0 0 = 11, write 0 1 0 = 12, write 0 2 0 = 13, write 0 3 0 = 14, write 0 4 0 = 14");
        book.run(two + "copy 0 0 0 0 5 = 5, write 0 0 0 = 10, write 0 4 0 = 14");
        book.run(two + "copy 0 0 1 0 0 = 0, copy 0 5 1 3 0 = 0, write 1 0 0 = 0, sheet 2 8 0, copy 2 0 0 0 0 = 0, copy 0 0 2 0 0 = 0");
        book.run("sheet 0 64 40, sheet 3 64 40, write 0 0 LMIN, write 0 39 LMAX, copy 0 0 3 0 40 = 40, write 3 0 0 = LMIN, write 3 39 0 = LMAX");
        book.says(37, "BEYOND: no such sheet (either).");
        book.run("sheet 0 8 1, copy -1 0 0 0 1 = BEYOND, copy 4 0 0 0 1 = BEYOND, copy MIN 0 0 0 1 = BEYOND, copy MAX 0 0 0 1 = BEYOND");
        book.run("sheet 0 8 1, copy 0 0 -1 0 1 = BEYOND, copy 0 0 4 0 1 = BEYOND, copy 0 0 MIN 0 1 = BEYOND, copy 0 0 MAX 0 1 = BEYOND, copy 1 0 4 0 1 = BEYOND, copy 4 0 1 0 1 = BEYOND");
        book.says(37, "MISSING: one is.");
        book.run("sheet 0 8 1, copy 0 0 1 0 1 = MISSING, copy 1 0 0 0 1 = MISSING, copy 1 0 1 0 0 = MISSING, copy 2 0 3 0 1 = MISSING, copy 0 -1 1 0 1 = MISSING");
        book.says(37, "KIND: they are not of as many bits.");
        book.run("sheet 0 8 1, sheet 1 16 1, sheet 2 64 1, copy 0 0 1 0 1 = KIND, copy 1 0 0 0 1 = KIND, copy 1 0 2 0 1 = KIND, copy 2 0 0 0 0 = KIND, copy 0 -1 2 9 9 = KIND, status 2 = 5");
        book.says(37, "BEYOND: one has not so many, or from, to or n is below 0.");
        book.run(two + "copy 0 0 1 0 4 = BEYOND, copy 1 0 0 0 4 = BEYOND, copy 0 3 1 0 3 = BEYOND, copy 0 0 1 1 3 = BEYOND, copy 0 5 1 0 1 = BEYOND, copy 0 0 1 3 1 = BEYOND");
        book.run(two + "copy 0 6 1 0 0 = BEYOND, copy 0 0 1 4 0 = BEYOND, copy 0 0 0 0 6 = BEYOND, copy 0 0 0 1 5 = BEYOND, copy 0 1 0 0 5 = BEYOND");
        book.run(two + "copy 0 -1 1 0 1 = BEYOND, copy 0 0 1 -1 1 = BEYOND, copy 0 0 1 0 -1 = BEYOND, copy 0 1 1 1 -1 = BEYOND, copy 0 -1 1 0 0 = BEYOND, copy 0 0 1 -1 0 = BEYOND");
        book.run(two + "copy 0 MAX 1 0 1 = BEYOND, copy 0 0 1 MAX 1 = BEYOND, copy 0 1 1 1 MAX = BEYOND, copy 0 MAX 1 MAX MAX = BEYOND, copy 0 MAX 0 0 MIN = BEYOND");
        book.run(two + "copy 0 MIN 1 0 1 = BEYOND, copy 0 0 1 MIN 1 = BEYOND, copy 0 0 1 0 MIN = BEYOND, copy 0 MIN 1 MIN MIN = BEYOND, copy 0 MIN 0 0 MAX = BEYOND");
    }

    private static void lays(Book book) {
        book.says(38, "Numbers of a sheet become BOWLS of PLACES 0, 1, .. (those that aren't 0 to 99, or stand for none, are left out): how many came.");
        book.run("bowl 0 5, bowl 1 5, sheet 0 8 0, lays 0 = 0, now 2 = 10, sheet 0 8 1, lays 0 = 1, now 2 = 5, light 1 = 5");
        book.run("sheet 0 8 4, bowl 0 5, bowl 2 6, write 0 0 100, write 0 1 99, write 0 2 -1, write 0 3 127, lays 0 = 1, light 0 = 5, light 1 = 99, light 2 = 6, light 3 = 0");
        book.run("sheet 0 16 4, bowl 0 5, bowl 1 6, write 0 0 256, write 0 1 -32768, write 0 2 0x10007, write 0 3 100, lays 0 = 1, light 0 = 5, light 1 = 6, light 2 = 7");
        book.run("sheet 0 64 5, bowl 0 5, write 0 0 0x100000000, write 0 1 LMIN, write 0 2 LMAX, write 0 3 99, write 0 4 0x8000000000000005, bowl 4 3, lays 0 = 1, "
            + "light 0 = 5, light 1 = 0, light 2 = 0, light 3 = 99, light 4 = 3");
        book.run("sheet 0 8 40, write 0 15 9, write 0 16 8, write 0 39 7, lays 0 = 16, light 15 = 9, now 2 = 9");
        book.run("sheet 0 8 17, write 0 15 -1, write 0 16 8, bowl 15 3, lays 0 = 15, now 2 = 3, sheet 0 8 15, lays 0 = 15, now 2 = 3, sheet 0 8 16, lays 0 = 16, now 2 = 0");
        book.says(38, "BEYOND: no such sheet.");
        book.run("lays -1 = BEYOND, lays 4 = BEYOND, lays MIN = BEYOND, lays MAX = BEYOND");
        book.says(38, "MISSING.");
        book.run("bowl 0 5, lays 0 = MISSING, lays 3 = MISSING, sheet 3 8 1, sheet 3 0 1, lays 3 = MISSING, now 2 = 5");
    }

    private static void map(Book book) {
        book.says(39, "A map: LIGHT of PLACES 0, 1, .. comes to a sheet, as far as it has numbers: how many.");
        book.run("bowl 0 5, being 0 1, sheet 0 8 0, map 0 = 0, sheet 0 8 2, map 0 = 2, write 0 0 0 = 15, write 0 1 0 = 20, light 0 = 15");
        book.run("bowl 15 9, sheet 0 64 40, write 0 16 7, write 0 39 8, map 0 = 16, write 0 15 0 = 9, write 0 14 0 = 0, write 0 16 0 = 7, write 0 39 0 = 8");
        book.run("sheet 0 16 15, map 0 = 15, sheet 0 16 16, map 0 = 16, sheet 0 16 17, map 0 = 16");
        book.run("being 3 0, sheet 0 8 3, eat 0 43, map 0, write 0 0 0 = -127, write 0 1 0 = 64, eat 0 99, map 0, write 0 0 0 = 41, write 0 1 0 = -108");
        book.run("10x being 3 0, sheet 0 16 1, sheet 1 64 1, bowl 0 99, map 0, write 0 0 0 = 699, map 1, write 1 0 0 = 699");
        book.says(39, "BEYOND: no such sheet.");
        book.run("map -1 = BEYOND, map 4 = BEYOND, map MIN = BEYOND, map MAX = BEYOND");
        book.says(39, "MISSING.");
        book.run("map 0 = MISSING, map 3 = MISSING, sheet 3 8 1, sheet 3 0 1, map 3 = MISSING");
    }

    private static void read(Book book) {
        book.says(40, "THE READER, who had eaten: numbers of a sheet are LIGHT of PLACES 0, 1, .. (those beyond PLACE 15 count nothing):");
        book.run("sheet 0 8 1, read 0 = 1, write 0 0 1, read 0 = 0, sheet 0 8 40, write 0 16 9, write 0 39 9, read 0 = 1, write 0 15 1, read 0 = 0");
        book.run("sheet 0 8 0, read 0 = 1, bowl 0 9, read 0 = 1, being 0 0, read 0 = 2, 9x being 0 5, read 0 = 1024");
        book.run("bowl 1 5, sheet 0 8 1, read 0 = 1, sheet 0 8 2, read 0 = 0, write 0 1 5, read 0 = 1, write 0 1 -5, read 0 = 0");
        book.run("being 3 0, eat 0 50, sheet 0 8 1, map 0, read 0 = 0, sheet 0 16 1, map 0, read 0 = 1");
        book.says(40, "how many sets of BEINGS there are that, with BOWLS as they are and all others giving none (each shining as it does), make it just so.");
        book.run("3x being 0 0, sheet 0 16 1, read 0 = 1, write 0 0 20, read 0 = 3, write 0 0 40, read 0 = 3, write 0 0 60, read 0 = 1, write 0 0 80, read 0 = 0, "
            + "write 0 0 21, read 0 = 0, bowl 0 1, read 0 = 3, write 0 0 1, read 0 = 1, write 0 0 0, read 0 = 0");
        // A singer shines as it does, even where the other one is left out.
        book.run("2x being 1 0, sheet 0 16 1, write 0 0 30, read 0 = 2, write 0 0 20, read 0 = 0, write 0 0 60, read 0 = 1");
        book.run("10x being 5 0, sheet 0 8 16, read 0 = 1024, bowl 0 1, read 0 = 0, write 0 0 1, read 0 = 1024");
        book.run("10x being 0 0, sheet 0 16 16, map 0, read 0 = 1, write 0 0 100, read 0 = 0, sheet 0 16 1, write 0 0 100, read 0 = 252");
        book.run("being 0 0, being 0 15, sheet 0 16 16, map 0, read 0 = 1, sheet 0 16 1, map 0, read 0 = 2");
        book.run("being 0 0, sheet 0 64 1, write 0 0 0x100000014, read 0 = 0, write 0 0 LMIN, read 0 = 0, write 0 0 LMAX, read 0 = 0, write 0 0 -20, read 0 = 0, write 0 0 20, read 0 = 1");
        book.says(40, "BEYOND: no such sheet.");
        book.run("read -1 = BEYOND, read 4 = BEYOND, read MIN = BEYOND, read MAX = BEYOND");
        book.says(40, "MISSING.");
        book.run("read 0 = MISSING, read 3 = MISSING, sheet 3 8 1, sheet 3 0 1, read 3 = MISSING");
    }
}
