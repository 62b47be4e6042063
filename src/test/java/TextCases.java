import java.util.Arrays;

/** The text of a night: what the terms tell of it, and promises 32 to 34. */
final class TextCases {
    private static final int TERMS = Book.TERMS;
    private static final String TEN_BEINGS = "10x being 0 0";
    private static final String EIGHT_TASKS = "8x task 0 0 1";
    private static final String[] TOKENS = {"person", "singer", "thief", "herd", "choir", "faster", "at", "goes", "meal",
        "fasts", "bowl", "task", "hour", "need", "eat", "nought", "7", ";", "!"};

    static void run(Book book) {
        tape(book);
        tokens(book);
        beings(book);
        otherItems(book);
        faults(book);
        feed(book);
        wipe(book);
        night(book);
    }

    private static void tape(Book book) {
        book.says(TERMS, "THE TEXT of a NIGHT, from THE TAPE (bytes, at most 120).");
        String items = "bowl 1 1;".repeat(12);
        book.run("tape " + items + "bowl   15 99|\ncount 2 = 120, night = 13, count 2 = 0, light 15 = 99");
        book.run("tape " + items + "bowl 15 9|\nfeed 0x39 1 = 118, feed 0x2020 2 = 120, feed 0x39 1 = FULL, night = 13, light 15 = 99");
        book.run("tape " + items + "bowl   15 99|\nfeed 0x39 1 = FULL, feed 0x20 1 = FULL, count 2 = 120, night = 13");
        book.fault(";".repeat(120), 0);
        book.fault("bowl 0 0" + ";".repeat(112), 9);
        book.fault(" ".repeat(120), 120);
        book.fault("a".repeat(120), 0);
        book.fault("bowl 0 " + "0".repeat(111) + "1x", 119);
    }

    private static void tokens(Book book) {
        book.says(TERMS, "TOKENS, each as long as can be:");
        book.fault("personat 3", 0);
        book.fault("bowl 115 1", 5);
        book.fault("bowl 1 1001", 7);
        book.run("tape bowl 1 51|\nnight = 1, light 1 = 51");
        book.run("tape herd at3goes4meal5fasts6|\nnight = 1, of 0 1 = 3, of 0 2 = 4, of 0 3 = 5, of 0 4 = 6");
        book.says(TERMS, "WORDS (letters a to z),");
        book.fault("Bowl 1 1", 0);
        book.fault("bowL 1 1", 0);
        book.fault("herd at 1 gOes 1", 10);
        book.fault("`owl 1 1", 0);
        book.fault("bowl{ 1 1", 4);
        book.fault("bowl` 1 1", 4);
        book.fault("bowlz 1 1", 0);
        book.fault("bowla 1 1", 0);
        book.fault("zbowl 1 1", 0);
        book.fault("bow 1 1", 0);
        anotherLetter(book, "", "person", " at 1");
        anotherLetter(book, "", "singer", " at 1");
        anotherLetter(book, "", "thief", " at 1");
        anotherLetter(book, "", "herd", " at 1");
        anotherLetter(book, "", "choir", " at 1");
        anotherLetter(book, "", "faster", " at 1");
        anotherLetter(book, "", "bowl", " 1 1");
        anotherLetter(book, "herd at 1;", "eat", " 0 1");
        anotherLetter(book, "", "task", " at 1 hour 1 need 1");
        anotherLetter(book, "herd ", "at", " 1");
        anotherLetter(book, "herd at 1 ", "goes", " 1");
        anotherLetter(book, "herd at 1 ", "meal", " 1");
        anotherLetter(book, "herd at 1 ", "fasts", " 1");
        anotherLetter(book, "task at 1 ", "hour", " 1 need 1");
        anotherLetter(book, "task at 1 hour 1 ", "need", " 1");
        book.says(TERMS, "NUMBERS (digits, 999 at most),");
        book.run("tape herd at 1 fasts 999|\nnight = 1, of 0 4 = 999");
        book.fault("herd at 1 fasts 1000", 16);
        book.fault("herd at 1 fasts 9999", 16);
        book.fault("herd at 4294967297", 8);
        book.fault("herd at 18446744073709551616", 8);
        book.fault("herd at -1", 8);
        book.fault("herd at /1", 8);
        book.fault("herd at :1", 8);
        book.fault("herd at 1:", 9);
        book.fault("herd at 1/", 9);
        book.run("tape herd at 015 fasts 0000999|\nnight = 1, of 0 1 = 15, of 0 4 = 999");
        book.run("tape bowl 0 " + "0".repeat(112) + "1|\nnight = 1, light 0 = 1");
        book.says(TERMS, "SIGN ; ;");
        book.run("tape bowl 1 1;bowl 2 2|\nnight = 2, now 2 = 3");
        book.fault("bowl 1 1:bowl 2 2", 8);
        book.fault("bowl 1 1<bowl 2 2", 8);
        book.says(TERMS, "blanks may stand between.");
        book.run("tape   bowl   1   1   ;   bowl   2   2   |\nnight = 2, now 2 = 3");
        book.run("tape herd at1;eat0 9|\nnight = 2, of 0 1 = 1, of 0 3 = 9");
        book.run("tape herd at 3 |\nnight = 1, of 0 1 = 3");
        book.fault("bowl 1 1 1", 9);
        book.fault("bo wl 1 1", 0);
        book.fault("bowl\\0111 1", 4);
        book.fault("bowl 1\\0121", 6);
        book.fault("bowl 1\\0151", 6);
        book.fault("bowl 1\\0001", 6);
        book.says(TERMS, "TEXT: ITEM { ; ITEM }.");
        book.fault("", 0);
        book.fault(";", 0);
        book.fault("bowl 1 1;", 9);
        book.fault("bowl 1 1; ", 10);
        book.fault("bowl 1 1;;bowl 2 2", 9);
        book.fault(";bowl 1 1", 0);
        book.fault("bowl 1 1 bowl 2 2", 9);
        book.run("tape bowl 1 1;herd at 2;task at 3 hour 4 need 5;eat 0 6|\nnight = 4, count 0 = 1, count 1 = 1, light 1 = 10");
    }

    /** A word of which one letter is another one, or is left out, is another word. */
    private static void anotherLetter(Book book, String before, String word, String behind) {
        for (int i = 0; i < word.length(); i++) {
            book.fault(before + word.substring(0, i) + "x" + word.substring(i + 1) + behind, before.length());
            book.fault(before + word.substring(0, i) + word.substring(i + 1) + behind, before.length());
        }
        book.fault(before + word + "x" + behind, before.length());
    }

    private static void beings(Book book) {
        book.says(TERMS, "ITEM: the name of a KIND (person singer thief herd choir faster), at, a NUMBER (a PLACE),");
        String[] names = {"person", "singer", "thief", "herd", "choir", "faster"};
        for (int kind = 0; kind < names.length; kind++) {
            book.run("tape " + names[kind] + " at 15|\nnight = 1, of 0 0 = " + kind + ", of 0 1 = 15");
            book.fault(names[kind] + "s at 15", 0);
            book.fault(names[kind].substring(1) + " at 15", 0);
        }
        book.run("tape herd at 0|\nnight = 1, of 0 1 = 0, of 0 2 = 0, of 0 3 = 20, of 0 4 = 0");
        book.fault("herd at 16", 8);
        book.fault("herd at 999", 8);
        book.fault("herd 1", 5);
        book.fault("herd goes 1", 5);
        book.fault("herd at at 1", 8);
        book.fault("herd at herd", 8);
        book.fault("herd", 4);
        book.fault("herd at", 7);
        book.says(TERMS, "perhaps goes and a NUMBER (a PLACE, its GOAL),");
        book.run("tape herd at 3 goes 15;herd at 4 goes 0;herd at 5|\nnight = 3, of 0 2 = 15, of 1 2 = 0, of 2 2 = 5, of 0 1 = 3");
        book.fault("herd at 3 goes 16", 15);
        book.fault("herd at 3 goes", 14);
        book.fault("herd at 3 goes;", 14);
        book.fault("herd at 3 goes 4 goes 5", 17);
        book.fault("herd at 3 goes meal 5", 15);
        book.says(TERMS, "perhaps meal and a NUMBER (0 to 99),");
        book.run("tape herd at 3 meal 99;herd at 4 meal 0;herd at 5 goes 1 meal 7|\nnight = 3, of 0 3 = 99, of 1 3 = 0, of 2 3 = 7, of 2 2 = 1");
        book.fault("herd at 3 meal 100", 15);
        book.fault("herd at 3 meal", 14);
        book.fault("herd at 3 meal 4 goes 5", 17);
        book.fault("herd at 3 meal 4 meal 5", 17);
        book.says(TERMS, "perhaps fasts and a NUMBER (0 to 999): a new BEING;");
        book.run("tape herd at 3 fasts 999;herd at 4 fasts 0;herd at 5 meal 8 fasts 9|\nnight = 3, of 0 4 = 999, of 1 4 = 0, of 2 4 = 9, of 2 3 = 8");
        book.run("tape choir at 1 goes 2 meal 3 fasts 4|\nbeing 0 0 = 0, night = 1, count 0 = 2, of 1 0 = 4, of 1 1 = 1, of 1 2 = 2, of 1 3 = 3, of 1 4 = 4");
        book.run("tape herd at 3 goes 4 fasts 5|\nnight = 1, of 0 2 = 4, of 0 3 = 20, of 0 4 = 5");
        book.fault("herd at 3 fasts 1000", 16);
        book.fault("herd at 3 fasts", 15);
        book.fault("herd at 3 fasts 4 meal 5", 18);
        book.fault("herd at 3 fasts 4 fasts 5", 18);
        book.fault("herd at 3 fasts 4 goes 5", 18);
    }

    private static void otherItems(Book book) {
        book.says(TERMS, "bowl, a NUMBER (a PLACE), a NUMBER (0 to 99);");
        book.run("tape bowl 0 99;bowl 15 1;bowl 7 0|\nbowl 7 5, night = 3, light 0 = 99, light 15 = 1, light 7 = 0");
        book.run("tape bowl 3 9;bowl 3 4|\nnight = 2, light 3 = 4");
        book.fault("bowl 16 1", 5);
        book.fault("bowl 1 100", 7);
        book.fault("bowl 1", 6);
        book.fault("bowl", 4);
        book.fault("bowl at 1 1", 5);
        book.fault("bowl 1;", 6);
        book.says(TERMS, "task, at, a NUMBER (a PLACE), hour, a NUMBER (0 to 99), need, a NUMBER (1 to 99): a new TASK;");
        book.run("tape task at 15 hour 99 need 99;task at 0 hour 0 need 1|\nnight = 2, taskOf 0 0 = 15, taskOf 0 1 = 99, taskOf 0 2 = 99, "
            + "taskOf 1 0 = 0, taskOf 1 1 = 0, taskOf 1 2 = 1, count 1 = 2");
        book.fault("task at 16 hour 1 need 1", 8);
        book.fault("task at 1 hour 100 need 1", 15);
        book.fault("task at 1 hour 1 need 0", 22);
        book.fault("task at 1 hour 1 need 00", 22);
        book.fault("task at 1 hour 1 need 100", 22);
        book.fault("task 1", 5);
        book.fault("task at 1 need 1", 10);
        book.fault("task hour 1 need 1", 5);
        book.fault("task need 1", 5);
        book.fault("task at hour 1 need 1", 8);
        book.fault("task at 1 hour need 1", 15);
        book.fault("task at 1 1 need 1", 10);
        book.fault("task at 1 hour 1 1", 17);
        book.fault("task at 1 hour 1 hour 1", 17);
        book.fault("task", 4);
        book.fault("task at", 7);
        book.fault("task at 1", 9);
        book.fault("task at 1 hour", 14);
        book.fault("task at 1 hour 1", 16);
        book.fault("task at 1 hour 1 need", 21);
        book.fault("task at 1 hour 1 need 1 1", 24);
        book.says(TERMS, "eat, a NUMBER (a BEING there by then), a NUMBER (0 to 99): its MEAL is that, FASTS 0.");
        book.run("tape eat 0 99;eat 1 0|\nbeing 0 0, being 0 0, set 0 4 9, set 1 4 9, night = 2, of 0 3 = 99, of 0 4 = 0, of 1 3 = 0, of 1 4 = 0");
        book.run("tape herd at 0 meal 5 fasts 7;eat 0 9|\nnight = 2, of 0 3 = 9, of 0 4 = 0");
        book.run(TEN_BEINGS + "\ntape eat 9 5|\nnight = 1, of 9 3 = 5");
        book.fault("eat 0 1", 4);
        book.fault("eat 0 1;herd at 1", 4);
        book.fault("herd at 1;eat 1 1;herd at 2", 14);
        book.fault("being 0 0", "eat 0 100", 6);
        book.fault("being 0 0", "eat 1 1", 4);
        book.fault("being 0 0", "eat 0", 5);
        book.fault("being 0 0", "eat", 3);
        book.fault("being 0 0", "eat 0 herd", 6);
        book.fault("being 0 0", "eat at 0 1", 4);
        book.fault(TEN_BEINGS, "eat 10 1", 4);
    }

    private static void faults(Book book) {
        book.says(TERMS, "FAULT: the place (from 0) of the first byte of the first TOKEN that can't stand there");
        book.fault("nought", 0);
        book.fault("bowl nought nought", 5);
        book.fault("  bowl   nought", 9);
        // Where each token of an item stands: which ones may stand there. The last place is behind the item.
        String items = "person singer thief herd choir faster bowl task eat";
        otherTokens(book, "", "herd at 1 goes 2 meal 3 fasts 4", items, "at", "7", "goes meal fasts ;", "7", "meal fasts ;", "7",
            "fasts ;", "7", ";");
        otherTokens(book, "", "bowl 1 2", items, "7", "7", ";");
        otherTokens(book, "", "task at 1 hour 2 need 3", items, "at", "7", "hour", "7", "need", "7", ";");
        otherTokens(book, "being 0 0", "eat 0 5", items, "7", "7", ";");
        book.says(TERMS, "(a NUMBER that may not be,");
        book.fault("bowl 1 123", 7);
        book.fault("bowl 123 123", 5);
        book.fault("bowl 1 5000000000", 7);
        book.says(TERMS, "another WORD,");
        book.fault("bowl one 1", 5);
        book.fault("herd by 1", 5);
        book.fault("at 1", 0);
        book.fault("need", 0);
        book.fault("bowl 1 1;hour", 9);
        book.says(TERMS, "a byte that begins no TOKEN,");
        book.fault("!", 0);
        book.fault("bowl 1 1!", 8);
        book.fault("bowl 1 1 !", 9);
        book.fault("bowl !", 5);
        book.fault("bowl 1 1;!", 9);
        book.fault("\\377bowl 1 1", 0);
        book.fault("bowl 1 1\\200", 8);
        book.fault("bowl 1 1\\000", 8);
        // The lowest seven bits of these would be a letter, a digit, a blank.
        book.fault("\\342owl 1 1", 0);
        book.fault("bowl \\261 1", 5);
        book.fault("bowl 1 1\\240", 8);
        book.fault("bowl 1 1\\273bowl 1 1", 8);
        book.says(TERMS, "the name of a KIND for an 11th,");
        book.fault(TEN_BEINGS, "herd at 1", 0);
        book.fault(TEN_BEINGS, "herd nought", 0);
        book.fault(TEN_BEINGS, "bowl 1 1; faster", 10);
        book.fault("9x being 0 0", "herd at 1;herd at 2", 10);
        book.run("9x being 0 0\ntape herd at 1|\nnight = 1, count 0 = 10");
        book.run(TEN_BEINGS + "\ntape bowl 1 1;eat 9 9;task at 1 hour 1 need 1|\nnight = 3");
        book.says(TERMS, "task for a 9th: its own),");
        book.fault(EIGHT_TASKS, "task at 1 hour 1 need 1", 0);
        book.fault(EIGHT_TASKS, "task nought", 0);
        book.fault(EIGHT_TASKS, "bowl 1 1; task", 10);
        book.fault("7x task 0 0 1", "task at 1 hour 1 need 1;task at 1 hour 1 need 1", 24);
        book.run("7x task 0 0 1\ntape task at 1 hour 1 need 1|\nnight = 1, count 1 = 8");
        book.run(EIGHT_TASKS + "\ntape bowl 1 1;herd at 1;eat 0 9|\nnight = 3");
        book.says(TERMS, "or how many bytes there are if it ends too early.");
        book.fault("", 0);
        book.fault("   ", 3);
        book.fault("herd at ", 8);
        book.fault("herd at 1;   ", 13);
        book.fault("bowl 1   ", 9);
    }

    /** Puts each token that may not stand there in the place of each token of an item, and behind it. */
    private static void otherTokens(Book book, String before, String item, String... may) {
        String[] tokens = item.split(" ");
        for (int i = 0; i < may.length; i++) {
            String ahead = String.join(" ", Arrays.copyOf(tokens, i)) + (i == 0 ? "" : " ");
            String behind = i + 1 < tokens.length ? " " + String.join(" ", Arrays.copyOfRange(tokens, i + 1, tokens.length)) : "";
            for (String token : TOKENS) {
                if (!Arrays.asList(may[i].split(" ")).contains(token)) {
                    book.fault(before, ahead + token + behind, ahead.length());
                }
            }
            if (!may[i].contains(";")) {
                book.fault(before, ahead, ahead.length());
            }
        }
    }

    private static void feed(Book book) {
        book.says(32, "THE TAPE gets the n lowest bytes of a number behind it, the highest of these first (n 1 to 4): how many it has.");
        book.run("feed 0x626f776c 4 = 4, feed 0x7f203120 3 = 7, feed 0x7f7f3936 2 = 9, feed 0x7f7f7f20 1 = 10, night = 1, light 1 = 96");
        book.run("feed 0x686572 3 = 3, feed 0x64206174 4 = 7, feed 0x20 1 = 8, feed 0x3135 2 = 10, night = 1, of 0 1 = 15");
        // All of a number's bits are there, its highest too.
        book.run("feed -1 4 = 4, night = -1, feed 0x626f776c 4, feed 0x2031ff31 4, night = -7");
        book.run("feed 0 1 = 1, feed 0 2 = 3, feed 0 3 = 6, feed 0 4 = 10, count 2 = 10");
        book.says(32, "BEYOND: n.");
        book.run("feed 0 0 = BEYOND, feed 0 -1 = BEYOND, feed 0 5 = BEYOND, feed 0 MIN = BEYOND, feed 0 MAX = BEYOND, count 2 = 0");
        book.run("feed MIN 1 = 1, feed MAX 4 = 5, feed MIN 0 = BEYOND, count 2 = 5");
        book.says(32, "FULL.");
        book.run("29x feed 0 4, feed 0 3 = 119, feed 0 2 = FULL, feed 0 4 = FULL, feed 0 1 = 120, feed 0 1 = FULL, count 2 = 120");
        book.run("30x feed 0 4, feed 0 1 = FULL, feed 0 4 = FULL, wipe = 120, feed 0 4 = 4");
    }

    private static void wipe(Book book) {
        book.says(33, "THE TAPE is empty: how many it had.");
        book.run("wipe = 0, feed 0 3, wipe = 3, wipe = 0, count 2 = 0");
        book.run("30x feed 0 4, wipe = 120, count 2 = 0, feed 0 1 = 1");
        book.run("tape herd at 1|\nwipe = 9, night = -1, count 0 = 0");
    }

    private static void night(Book book) {
        book.says(34, "THE TAPE is THE TEXT of a NIGHT, whose ITEMS come to what there is, and empty then: how many ITEMS.");
        book.run("being 2 7, bowl 3 3, task 1 2 3\ntape herd at 1;bowl 2 5;task at 9 hour 9 need 9|\nnight = 3, count 2 = 0, "
            + "count 0 = 2, of 0 0 = 2, of 0 1 = 7, of 1 0 = 3, now 2 = 8, count 1 = 2, taskOf 0 2 = 3, taskOf 1 2 = 9, night = -1");
        book.run("hours 7\ntape herd at 1|\nnight = 1, now 0 = 7");
        book.says(34, "With a FAULT: -1 less its place (nothing changes but that THE TAPE is empty; no finding).");
        book.run("night = -1, status -1 = 0");
        book.fault("being 2 7, bowl 3 3, task 1 2 3, image", "herd at 1;bowl 2 5;task at 9 hour 9 need 9;eat 0 5;nought", 51);
        book.fault("being 2 7", "eat 0 55;eat 0 100", 15);
        book.fault(" ".repeat(112) + "bowl 1", 118);
        book.fault(" ".repeat(119) + "!", 119);
    }
}
