import java.util.List;

/**
 * The boundary cases of the promises 1 to 37: a test for each sentence that names one. What a call answers for rows
 * that don't exist, and which of two exceptions is thrown, is tested with the terms; so is all that throws, by Script:
 * a call that throws an exception changes nothing.
 */
public final class BoundaryCallsTest {
    /** 800 cards, which fall from 800 to 1, in row 0. */
    private static final String FALLING = "lays 0 \"fall 400 800 1;fall 400 400 1;\" = 800\n";

    /** 800 cards, which rise from 1 to 800, in row 0. */
    private static final String RISING = "lays 0 \"rise 400 1 1;rise 400 401 1;\" = 800\n";

    /** 799 cards of the first number 1 in row 1. */
    private static final String ALMOST_FULL = "lays 1 \"same 400 1;same 399 1;\" = 799\n";

    private static String blanks(int n) {
        return n == 0 ? "" : "text \"" + " ".repeat(n) + "\"\n";
    }

    private static void promise01() {
        String name = "Promise 1: ";
        Script.run(name + "empty rows", Script.each("count # = 0", 0, 1, 2, 3), "put 3 0 1 1 = 0");
        Script.run(name + "an empty text", "clearText = 0, fault = -1, lay 0 = 0, type 59 = 1, fault = 0");
        Script.run(name + "no rows that are kept", Script.each("restore # = STATE", 0, 1, 2, 3));
        // All that is static in the class would be shared.
        Cardcabinet used = new Cardcabinet();
        used.put(0, 0, 7, 7);
        used.type(59);
        used.keep(1);
        used.setSeed(9);
        Script.run(name + "also beside another object that was used",
                "count 0 = 0, type 0 = 0, setSeed 1 = 1, put 0 0 1 1 = 0\n",
                Script.each("restore # = STATE", 0, 1, 2, 3));
    }

    private static void promise02() {
        String name = "Promise 2: ";
        Script.run(name + "the highest byte first", """
                type 0x73616d6531203139 = 8, type 0x3b = 9, fault = -1, lay 0 = 1, firsts 0 = 19
                """);
        Script.run(name + "without those that are 0", """
                type 0 = 0, type 0x0100000000000001 = 2, type 0x6100 = 3, type 0x00ff00ff00ff00ff = 7, type MIN = 8
                type MAX = 16, type -1 = 24, type 1 = 25, type 255 = 26, type 256 = 27, type 0 = 27, clearText = 27
                type 0x7300610000006d65 = 4, type 0x3100002000330000 = 7, type 0x3b00000000000000 = 8, lay 0 = 1
                firsts 0 = 3
                """);
        for (int bytes = 1; bytes <= 8; bytes++) {
            String all = "0x" + "20".repeat(bytes);
            String told = "it throws if the length would be above 400: " + bytes + " bytes";
            Script.run(name + told + " up to 400", blanks(400 - bytes),
                    "type " + all + " = 400, fault = -1, clearText = 400");
            Script.run(name + told + " up to 401", blanks(401 - bytes),
                    "type " + all + " = STATE, type 0 = " + (401 - bytes));
        }
        Script.run(name + "bytes that are 0 take no room", blanks(398), """
                type 0x2000000000000020 = 400, type 0 = 400, type 0x0100000000000000 = STATE, type 1 = STATE
                type MIN = STATE
                """);
        Script.run(name + "nothing is put behind the text if not all can be", blanks(388), """
                text "same 1 5", type 0x3b203b203b = STATE, fault = 396, type 0x3b = 397, lay 0 = 1, fault = -1
                """);
    }

    private static void promise03() {
        String name = "Promise 3: ";
        Script.run(name + "an empty text", "clearText = 0, clearText = 0, type 0 = 0");
        Script.run(name + "a full text", blanks(400),
                "type 59 = STATE, clearText = 400, clearText = 0, type -1 = 8, fault = 0");
        Script.run(name + "nothing of the old text is left", """
                text "same 2 7;", clearText = 9, lay 0 = 0, fault = -1, text "same 1", fault = 6, lay 0 = STATE
                clearText = 6, fault = -1
                """);
        Script.run(name + "all else stays", """
                lays 0 "draw 2 7 0;" = 2, keep 0 = 2, setSeed 6, clearText = 11, count 0 = 2, restore 0 = 0
                setSeed 6 = 6
                """);
    }

    private static void promise04() {
        String right = "Promise 4: NONE if the text is right";
        for (String text : List.of("", " ", "same 1 0;", "teeth 400 -9999 999 99 mod 99;", "same1 0;".repeat(50),
                " ".repeat(400), " ".repeat(392) + "same1 0;", "same1 0;" + " ".repeat(392))) {
            Script.fault(right, text, -1);
        }
        String first = "Promise 4: the place of the first token that can't stand where it stands, by its first byte";
        Script.fault(first, "samesame", 0);
        Script.fault(first, "   xyz", 3);
        Script.fault(first, " ".repeat(399) + "x", 399);
        Script.fault(first, " ".repeat(395) + "rises", 395);
        Script.fault(first, "same1 0;".repeat(49) + "same1 0x", 399);
        Script.fault(first, "same 1 x y z", 7);
        Script.fault(first, "same 1 1; 5 ! rise", 10);
        Script.fault(first, "same 500 99999;", 5);
        Script.fault(first, "rise 400 9999 1000 mod 0;", 14);
        Script.fault(first, "same 1 1 mod 12345;", 13);
        Script.fault(first, "same 1 1;rise 1 1;", 17);
        String end = "Promise 4: the length of the text if it ends too early";
        for (String text : List.of("same", "same ", "teeth 1 1 1 1", "same 1 -", "same 1 1 mod  ", "same 1 1;rise 1",
                "same 1 1   ", " ".repeat(396) + "same", "same 1 1" + " ".repeat(392),
                "same1 0;".repeat(49) + "same1 00")) {
            Script.fault(end, text, text.length());
        }
        Script.run("Promise 4: it tells of the text as it is now", """
                text "same 1 1", fault = 8, fault = 8, type 59 = 9, fault = -1, type 59 = 10, fault = 9, clearText
                fault = -1
                """);
    }

    private static void promise05() {
        String name = "Promise 5: ";
        Script.run(name + "no cards", "lay 0 = 0, count 0 = 0, text \"  \", lay 0 = 0, put 0 0 1 1 = 0");
        Script.run(name + "no cards in a full row", FALLING, "clearText, lay 0 = 0, count 0 = 800, clearText");
        Script.run(name + "no cards behind 20000", Script.made(20000), "lay 0 = 0, count 0 = 0");
        Script.run(name + "all runs, behind a row, and the text stays", """
                put 2 0 8 8 = 0, text "same 1 1;same 2 2;same 1 3;", lay 2 = 4, lay 2 = 4, type 0 = 27, fault = -1
                firsts 2 = 8 1 2 2 3 1 2 2 3, marks 2 = 0 1 2 3 4 5 6 7 8
                """);
        Script.run(name + "as many runs as a text can have", "text \"" + "same1 0;".repeat(50) + "\"\n",
                "lay 0 = 50, count 0 = 50");
        Script.run(name + "it throws if the text is not right", """
                text "same 1 1", lay 0 = STATE, type 59 = 9, lay 0 = 1, type 120 = 10, lay 0 = STATE, count 0 = 1
                """);
        Script.run(name + "it throws if there would be more than 800 cards in the row", ALMOST_FULL, """
                clearText, text "same 2 5;", lay 1 = STATE, count 1 = 799, lays 1 "same 1 5;" = 1, lay 1 = STATE
                count 1 = 800, lays 1 "" = 0, count 1 = 800
                """);
        Script.run(name + "it throws if there would be more than 800 cards, by one lay", """
                text "same 400 1;same 400 1;same 1 1;", lay 0 = STATE, count 0 = 0, clearText
                text "same 1 1;same 400 1;same 399 1;", lay 0 = 800
                """);
        Script.run(name + "it throws if there would be more than 800 cards, by far",
                "text \"" + "same400 0;".repeat(40) + "\"\n", "fault = -1, lay 0 = STATE, count 0 = 0");
        Script.run(name + "it throws if more than 20000 would have been made", Script.made(19997), """
                text "same 2 1;same 2 1;", lay 3 = STATE, count 3 = 0
                lays 3 "same 1 1;same 2 1;" = 3, marks 3 = 19997 19998 19999
                clearText, text "same 1 1;", lay 3 = STATE, lay 0 = STATE
                """);
        Script.run(name + "draws go on from card to card and from lay to lay", """
                text "draw 2 0 999;draw 1 0 999;", lay 0 = 3, setSeed 1, lay 1 = 3, compare 0 1 = 0, lay 2 = 3
                """);
    }

    private static void promise06() {
        String name = "Promise 6: ";
        Script.run(name + "place 0 to the number of cards", """
                put 0 0 1 1 = 0, put 0 1 2 2 = 1, put 0 0 3 3 = 2, put 0 2 4 4 = 3, put 0 4 5 5 = 4, marks 0 = 2 0 3 1 4
                """);
        Script.run(name + "it throws if place is below 0 or above the number of cards",
                Script.each("put 0 # 1 1 = BOUNDS", -1, 1, 2, 800, "MIN", "MAX"), "put 0 0 1 1 = 0, put 0 1 1 1 = 1\n",
                Script.each("put 0 # 1 1 = BOUNDS", -1, 3, 4, 799, 800, 801, "MIN", "MAX"), "count 0 = 2");
        Script.run(name + "any numbers",
                "put 0 0 MIN MAX = 0, put 0 0 MAX MIN = 1, firsts 0 = MAX MIN, seconds 0 = MIN MAX");
        Script.run(name + "it throws if the row has 800 cards", ALMOST_FULL, """
                put 1 0 5 5 = 799, cardAt 1 0 0 = 5, cardAt 1 799 0 = 1, put 1 0 6 6 = STATE, put 1 400 6 6 = STATE
                put 1 800 6 6 = STATE, put 1 801 6 6 = BOUNDS, count 1 = 800, empty 1 = 800, put 1 0 6 6 = 800
                """);
        Script.run(name + "behind the last of 799 cards", ALMOST_FULL,
                "put 1 799 5 5 = 799, cardAt 1 799 0 = 5, cardAt 1 798 0 = 1");
        Script.run(name + "it throws if 20000 have been made", Script.made(19999), """
                put 2 0 1 1 = 19999, put 2 0 1 1 = STATE, put 2 1 1 1 = STATE, put 0 0 1 1 = STATE, marks 2 = 19999
                """);
    }

    private static void promise07() {
        Script.run("Promise 7: any number", """
                setSeed MIN = 1, setSeed MAX = MIN, setSeed 0 = MAX, setSeed -1 = 0, setSeed -1 = -1, setSeed 1 = -1
                setSeed 1 = 1
                """);
        Script.run("Promise 7: the seed before, as the draws left it",
                "setSeed 0 = 1, lays 0 \"draw 1 0 999;\" = 1, setSeed 0 = 12345");
    }

    /** Calls that sort a whole row, on rows of no, of one, of two and of 800 cards. */
    private static void promises08And12And13() {
        for (String call : List.of("sort", "sortBySecond", "sortByBoth")) {
            String name = "Promises 8, 12, 13: " + call + ": ";
            Script.run(name + "an empty row, and one of one card",
                    Script.each(call + " # = 0, put # 0 4 4, " + call + " # = 0", 0, 1, 2, 3));
            Script.run(name + "two cards", "put 0 0 1 1 = 0, put 0 0 2 2 = 1, put 0 0 2 2 = 2\n",
                    call + " 0 = 3, marks 0 = 0 2 1");
        }
        Script.run("Promise 8: a full row", FALLING,
                "sort 0 = 800, cardAt 0 0 2 = 799, cardAt 0 799 2 = 0, isSorted 0 = true, sort 0 = 0");
        Script.run("Promise 8: only this row",
                "put 0 0 2 2, put 0 1 1 1, put 1 0 2 2, put 1 1 1 1, sort 0 = 2, marks 0 = 1 0, marks 1 = 2 3");
        Script.run("Promise 8: second numbers mean nothing",
                "put 0 0 5 9, put 0 1 5 1, put 0 2 4 5, sort 0 = 3, marks 0 = 2 0 1");
        Script.run("Promise 12: a full row", """
                lays 0 "fall 400 800 1 mod 2;fall 400 400 1 mod 2;" = 800, sortBySecond 0 = 798, cardAt 0 0 2 = 0
                cardAt 0 399 2 = 798, cardAt 0 400 2 = 1, cardAt 0 799 2 = 799, sortBySecond 0 = 0
                """);
        Script.run("Promise 12: first numbers mean nothing",
                "put 0 0 9 5, put 0 1 1 5, put 0 2 5 4, sortBySecond 0 = 3, marks 0 = 2 0 1");
        Script.run("Promise 13: a full row", "lays 0 \"same 400 5 mod 2;same 400 4 mod 2;\" = 800", """
                sortByBoth 0 = 800, cardAt 0 0 2 = 400, cardAt 0 199 2 = 798, cardAt 0 200 2 = 401, cardAt 0 399 2 = 799
                cardAt 0 400 2 = 0, cardAt 0 799 2 = 399, sortByBoth 0 = 0
                """);
        Script.run("Promise 13: cards with the same ones for both stay in their order", """
                put 0 0 5 9, put 0 1 5 1, put 0 2 5 9, put 0 3 4 MAX, put 0 4 5 1, put 0 5 6 MIN
                sortByBoth 0 = 4, marks 0 = 3 1 4 0 2 5
                """);
    }

    private static void promise09() {
        String name = "Promise 9: ";
        Script.run(name + "all rows are empty", "sortAll = 0, put 2 0 1 1 = 0, sortAll = 0, marks 2 = 0");
        Script.run(name + "all rows are full", "text \"fall 400 800 1;fall 400 400 1;\"\n",
                Script.each("lay # = 800", 0, 1, 2, 3), """
                sortAll = 3200, cardAt 0 0 2 = 799, cardAt 0 1 2 = 1599, cardAt 3 799 2 = 2400
                cardAt 3 798 2 = 1600, sortAll = 0
                """, Script.each("count # = 800, isSorted # = true", 0, 1, 2, 3));
        Script.run(name + "one row behind the other, each with as many cards as ahead", """
                put 0 0 3 0 = 0, put 2 0 3 0 = 1, put 2 1 1 0 = 2, put 3 0 2 0 = 3, put 3 1 3 0 = 4, put 3 2 1 0 = 5
                sortAll = 6, marks 0 = 2, marks 1 =, marks 2 = 5 3, marks 3 = 0 1 4
                """);
        Script.run(name + "the same card in two rows is not another one", """
                put 0 0 5 0 = 0, keep 0 = 1, pour 0 3 = 1, restore 0 = 1, put 0 0 9 0 = 1, marks 0 = 1 0, marks 3 = 0
                sortAll = 2, marks 0 = 0 0, marks 3 = 1
                """);
    }

    private static void promise10() {
        String name = "Promise 10: ";
        String five = "lays 0 \"fall 5 9 1;\" = 5\n";
        Script.run(name + "empty parts", five, Script.each("sortPart 0 # # = 0", 0, 1, 4, 5),
                "sortPart 1 0 0 = 0, marks 0 = 0 1 2 3 4");
        Script.run(name + "parts of one card", five, "sortPart 0 0 1 = 0, sortPart 0 4 5 = 0, marks 0 = 0 1 2 3 4");
        Script.run(name + "all others stay: at the beginning", five, "sortPart 0 0 2 = 2, marks 0 = 1 0 2 3 4");
        Script.run(name + "all others stay: at the end", five, "sortPart 0 3 5 = 2, marks 0 = 0 1 2 4 3");
        Script.run(name + "all others stay: in the middle", five, "sortPart 0 1 4 = 2, marks 0 = 0 3 2 1 4");
        Script.run(name + "the whole row", five, "sortPart 0 0 5 = 4, marks 0 = 4 3 2 1 0");
        Script.run(name + "a full row", FALLING, """
                sortPart 0 1 799 = 798, cardAt 0 0 2 = 0, cardAt 0 1 2 = 798, cardAt 0 799 2 = 799, sortPart 0 0 800
                isSorted 0 = true, sortPart 0 800 800 = 0, sortPart 0 0 801 = BOUNDS, sortPart 0 801 801 = BOUNDS
                """);
    }

    private static void promise11() {
        String name = "Promise 11: ";
        String five = "lays 0 \"rise 5 1 1;\" = 5\n";
        Script.run(name + "empty parts", five, Script.each("sortDown 0 # # = 0", 0, 1, 4, 5),
                "sortDown 1 0 0 = 0, marks 0 = 0 1 2 3 4");
        Script.run(name + "all others stay", five, """
                sortDown 0 1 4 = 2, marks 0 = 0 3 2 1 4, sortDown 0 4 5 = 0, sortDown 0 3 5 = 2, marks 0 = 0 3 2 4 1
                sortDown 0 0 2 = 2, marks 0 = 3 0 2 4 1, sortDown 0 0 5 = 4, firsts 0 = 5 4 3 2 1
                """);
        Script.run(name + "cards with the same first number stay in their order", """
                put 0 0 3 1, put 0 1 4 1, put 0 2 3 2, put 0 3 4 2, put 0 4 3 0, sortDown 0 0 5 = 4, marks 0 = 1 3 0 2 4
                """);
        Script.run(name + "over all ints", """
                put 0 0 MIN 1, put 0 1 0 1, put 0 2 MAX 1, put 0 3 -1 1, sortDown 0 0 4 = 3, firsts 0 = MAX 0 -1 MIN
                """);
        Script.run(name + "31 cards", RISING, """
                sortDown 0 0 31 = 30, cardAt 0 0 0 = 31, cardAt 0 30 0 = 1, cardAt 0 31 0 = 32
                sortDown 0 769 800 = 30, cardAt 0 769 0 = 800, cardAt 0 799 0 = 770, cardAt 0 768 0 = 769
                sortDown 0 400 431 = 30
                """);
        Script.run(name + "it throws if the part has more than 31 cards", RISING, """
                sortDown 0 0 32 = ARGUMENT, sortDown 0 768 800 = ARGUMENT, sortDown 0 400 432 = ARGUMENT
                sortDown 0 0 800 = ARGUMENT, isSorted 0 = true
                """);
    }

    private static void promises10And11WhatThrows() {
        String five = "lays 0 \"fall 5 9 1;\" = 5\n";
        for (String call : List.of("sortPart", "sortDown")) {
            String name = "Promises 10, 11: " + call + " throws if ";
            Script.run(name + "from is below 0", five, """
                    # 0 -1 5 = BOUNDS, # 0 -1 0 = BOUNDS, # 0 -1 -1 = BOUNDS, # 0 -2 5 = BOUNDS
                    # 0 MIN 5 = BOUNDS, # 0 MIN MIN = BOUNDS, # 0 MIN MAX = BOUNDS
                    """.replace("#", call));
            Script.run(name + "to is above the number of cards", five, """
                    # 0 0 6 = BOUNDS, # 0 5 6 = BOUNDS, # 0 6 6 = BOUNDS, # 0 7 6 = BOUNDS
                    # 0 0 800 = BOUNDS, # 0 5 MAX = BOUNDS, # 0 MAX MAX = BOUNDS, # 1 0 1 = BOUNDS
                    """.replace("#", call));
            Script.run(name + "from is above to", five, """
                    # 0 1 0 = ARGUMENT, # 0 5 4 = ARGUMENT, # 0 6 5 = ARGUMENT, # 0 MAX 5 = ARGUMENT
                    # 0 0 -1 = ARGUMENT, # 0 0 MIN = ARGUMENT, # 0 MAX MIN = ARGUMENT, # 1 1 0 = ARGUMENT
                    """.replace("#", call));
        }
    }

    private static void promise14() {
        String name = "Promise 14: ";
        Script.run(name + "behind those of the other one; the first one is empty then", """
                put 0 0 1 1 = 0, put 0 1 1 1 = 1, put 3 0 1 1 = 2, pour 0 3 = 3, marks 0 =, marks 3 = 2 0 1
                pour 3 0 = 3, marks 0 = 2 0 1
                """);
        Script.run(name + "empty rows",
                "pour 0 1 = 0, put 1 0 1 1 = 0, pour 0 1 = 1, pour 1 0 = 1, marks 0 = 0, marks 1 =");
        Script.run(name + "an empty row to a full one, and a full one to an empty one", FALLING, """
                pour 1 0 = 800, pour 0 1 = 800, count 0 = 0, cardAt 1 799 2 = 799
                """);
        Script.run(name + "it throws if both are the same",
                "pour 0 0 = ARGUMENT, pour 3 3 = ARGUMENT, put 1 0 1 1, pour 1 1 = ARGUMENT");
        Script.run(name + "it throws if the other one would have more than 800 cards", ALMOST_FULL, """
                put 0 0 5 5 = 799, put 0 1 5 5 = 800, pour 0 1 = STATE, pour 1 0 = STATE, thin 0 5 = 2
                put 0 0 6 6 = 801, pour 0 1 = 800, cardAt 1 799 2 = 801, put 0 0 6 6 = 802, pour 0 1 = STATE
                """);
        Script.run(name + "it throws if the other one would have more than 800 cards, by far", FALLING + ALMOST_FULL,
                "pour 0 1 = STATE, pour 1 0 = STATE");
    }

    private static void promise15() {
        String name = "Promise 15: ";
        Script.run(name + "no, one, two and three cards", """
                deal 0 1 = 0, put 0 0 1 1 = 0, deal 0 1 = 0, marks 0 = 0, put 0 1 1 1 = 1, deal 0 1 = 1, marks 0 = 0
                marks 1 = 1, put 0 1 1 1 = 2, put 0 2 1 1 = 3, deal 0 1 = 1, marks 0 = 0 3, marks 1 = 1 2
                """);
        Script.run(name + "those at places with an odd number, in their order", """
                put 1 0 1 1 = 0, lays 0 "same 7 3;" = 7, deal 0 1 = 3, marks 0 = 1 3 5 7, marks 1 = 0 2 4 6
                """);
        Script.run(name + "a full row", FALLING,
                "deal 0 1 = 400, cardAt 0 399 2 = 798, cardAt 1 399 2 = 799, count 0 = 400, count 1 = 400");
        Script.run(name + "it throws if both are the same",
                "deal 0 0 = ARGUMENT, deal 3 3 = ARGUMENT, put 1 0 1 1, deal 1 1 = ARGUMENT");
        Script.run(name + "it throws if the other one would have more than 800 cards: what stays doesn't count",
                ALMOST_FULL, """
                lays 0 "same 4 3;" = 4, deal 0 1 = STATE, empty 0 = 4, lays 0 "same 3 3;" = 3, deal 0 1 = 1
                count 1 = 800, marks 0 = 803 805, deal 0 1 = STATE, thin 0 0 = 2, put 0 0 1 1 = 806, deal 0 1 = 0
                marks 0 = 806
                """);
        Script.run(name + "400 cards to a row of 400, and of 401", FALLING, """
                lays 1 "same 400 1;" = 400, keep 0 = 800, deal 0 1 = 400, count 1 = 800, restore 0, empty 1 = 800
                lay 1 = 400, put 1 0 1 1 = 1600, deal 0 1 = STATE, move 0 0 0 = 0, deal 1 2 = 200, deal 0 1 = 400
                """);
    }

    private static void promise16To20() {
        Script.run("Promise 16: no, one, two and three cards", """
                turn 0 = 0, put 0 0 1 1 = 0, turn 0 = 1, marks 0 = 0, put 0 1 1 1 = 1, turn 0 = 2, marks 0 = 1 0
                put 0 2 1 1 = 2, turn 0 = 3, marks 0 = 2 0 1
                """);
        Script.run("Promise 16: a full row", FALLING,
                "turn 0 = 800, cardAt 0 0 2 = 799, cardAt 0 399 2 = 400, cardAt 0 400 2 = 399, isSorted 0 = true");
        Script.run("Promise 18: no card, all cards", """
                thin 0 0 = 0, put 0 0 1 5 = 0, put 0 1 5 1 = 1, thin 0 0 = 0, thin 0 5 = 1, marks 0 = 1, thin 0 5 = 0
                thin 0 1 = 1, count 0 = 0, thin 0 1 = 0
                """);
        Script.run("Promise 18: over all ints", "put 0 0 0 MIN, put 0 1 0 MAX, put 0 2 0 0, put 0 3 0 -1",
                "thin 0 MAX = 1, marks 0 = 0 2 3, thin 0 MIN = 1, marks 0 = 2 3, thin 0 -1 = 1, thin 0 0 = 1");
        Script.run("Promise 18: a full row", "lays 0 \"same 400 7 mod 2;same 400 7 mod 2;\" = 800",
                "thin 0 1 = 400, cardAt 0 0 2 = 0, cardAt 0 399 2 = 798, thin 0 0 = 400, count 0 = 0");
        Script.run("Promise 18: the first and the last card",
                "put 0 0 1 5, put 0 1 1 6, put 0 2 1 5, thin 0 5 = 2, marks 0 = 1");
        Script.run("Promise 19: no, one and two cards", """
                single 0 = 0, put 0 0 1 1 = 0, single 0 = 0, put 0 1 2 1 = 1, single 0 = 0, put 0 2 2 2 = 2
                single 0 = 1, marks 0 = 0 1
                """);
        Script.run("Promise 19: as it was at the beginning of the call", """
                put 0 0 1 1, put 0 1 2 1, put 0 2 2 1, put 0 3 2 1, put 0 4 1 1, put 0 5 1 1, put 0 6 2 1
                single 0 = 3, marks 0 = 0 1 4 6, single 0 = 0
                """);
        Script.run("Promise 19: a full row of one first number",
                "lays 0 \"same 400 0;same 400 0;\" = 800, single 0 = 799, marks 0 = 0");
        Script.run("Promise 19: a full row of unlike ones", FALLING, "single 0 = 0, count 0 = 800");
        Script.run("Promise 19: over all ints", """
                put 0 0 MIN 1, put 0 1 MAX 1, put 0 2 MAX 1, put 0 3 MIN 1, put 0 4 MIN 1, single 0 = 2
                marks 0 = 0 1 3
                """);
        Script.run("Promise 20: no cards, and 800", FALLING,
                "empty 1 = 0, empty 0 = 800, count 0 = 0, empty 0 = 0, put 0 0 1 1 = 800, empty 0 = 1");
    }

    private static void promise17() {
        String name = "Promise 17: ";
        String four = "lays 0 \"same 4 1;\" = 4\n";
        Script.run(name + "from the first place to the last one", four, "move 0 0 3 = 0, marks 0 = 1 2 3 0");
        Script.run(name + "from the last place to the first one", four, "move 0 3 0 = 3, marks 0 = 3 0 1 2");
        Script.run(name + "to the next place, and the one ahead", four,
                "move 0 1 2 = 1, marks 0 = 0 2 1 3, move 0 3 2 = 3, marks 0 = 0 2 3 1");
        Script.run(name + "to its own place", four, Script.each("move 0 # # = #", 0, 1, 2, 3), "marks 0 = 0 1 2 3");
        Script.run(name + "a row of one card",
                "put 0 0 1 1 = 0, move 0 0 0 = 0, marks 0 = 0, move 0 0 1 = BOUNDS, move 0 1 0 = BOUNDS");
        Script.run(name + "a full row", FALLING, """
                move 0 0 799 = 0, cardAt 0 799 2 = 0, cardAt 0 0 2 = 1, cardAt 0 798 2 = 799, move 0 799 0 = 0
                wrongPairs 0 = 319600, move 0 799 800 = BOUNDS, move 0 800 799 = BOUNDS
                """);
        Script.run(name + "it throws if there is no such place", four,
                Script.each("move 0 # 0 = BOUNDS, move 0 0 # = BOUNDS, move 0 # # = BOUNDS",
                        -1, 4, 5, 799, "MIN", "MAX"));
        Script.run(name + "it throws in an empty row", "move 0 0 0 = BOUNDS, move 0 -1 -1 = BOUNDS");
    }

    private static void promise21() {
        String name = "Promise 21: ";
        Script.run(name + "an empty row", "keep 0 = 0, put 0 0 1 1 = 0, restore 0 = 1, count 0 = 0, restore 0 = 0");
        Script.run(name + "a full row", FALLING, "keep 0 = 800, empty 0 = 800, restore 0 = 800, cardAt 0 799 2 = 799");
        Script.run(name + "in place of one that was kept before", """
                put 0 0 1 1 = 0, put 0 1 2 2 = 1, keep 0 = 2, turn 0 = 2, keep 0 = 2, turn 0 = 2, restore 0 = 2
                marks 0 = 1 0, empty 0 = 2, keep 0 = 0, put 0 0 1 1 = 2, restore 0 = 1, marks 0 =
                """);
        Script.run(name + "each row has a copy of its own",
                Script.each("put # 0 1 1, keep # = 1, put # 0 1 1", 0, 1, 2, 3),
                Script.each("restore # = 2", 3, 1, 0, 2), "marks 0 = 0, marks 1 = 2, marks 2 = 4, marks 3 = 6");
        Script.run(name + "it is a copy: what comes later leaves it as it is", """
                lays 0 "fall 4 4 1 mod 2;" = 4, keep 0 = 4, sort 0 = 4, restore 0 = 4, turn 0 = 4, restore 0 = 4
                thin 0 1 = 2, restore 0 = 3, move 0 0 3 = 0, restore 0 = 4, pour 0 1 = 4, restore 0 = 4
                deal 0 1 = 2, restore 0 = 3, put 0 0 9 9 = 4, restore 0 = 5, sortAll, restore 0, lay 0 = 4
                restore 0 = 4, single 0 = 0, empty 0 = 4, restore 0 = 4, marks 0 = 0 1 2 3
                """);
    }

    private static void promise22() {
        String name = "Promise 22: ";
        Script.run(name + "it throws if the row was never kept", """
                put 0 0 1 1 = 0, keep 1 = 0, keep 2 = 0, keep 3 = 0, restore 0 = STATE, keep 0 = 1, restore 0 = 0
                restore 1 = 0, restore 2 = 0, restore 3 = 0
                """);
        Script.run(name + "the copy stays", "put 0 0 1 1 = 0, keep 0 = 1\n",
                "empty 0 = 1, restore 0 = 1, restore 0 = 0\n".repeat(3));
        String kept = "lays 0 \"same 3 1;\" = 3, keep 0 = 3\n";
        Script.run(name + "it tells the places with another card", kept,
                "restore 0 = 0, move 0 0 2 = 0, restore 0 = 3, move 0 0 1 = 0, restore 0 = 2");
        Script.run(name + "it tells the places with a card ahead alone", kept,
                "put 0 3 1 1 = 3, put 0 4 1 1 = 4, restore 0 = 2, marks 0 = 0 1 2");
        Script.run(name + "it tells the places with a card then alone", kept,
                "empty 0 = 3, restore 0 = 3, deal 0 1 = 1, restore 0 = 2, marks 0 = 0 1 2");
        Script.run(name + "it tells both together", kept, "put 0 0 1 1 = 3, restore 0 = 4, marks 0 = 0 1 2");
        Script.run(name + "an empty row as a full one, and a full one as an empty one", FALLING, """
                keep 0 = 800, keep 1 = 0, pour 0 1 = 800, restore 0 = 800, restore 1 = 800, count 0 = 800, count 1 = 0
                """);
        Script.run(name + "a like card is another one",
                "put 0 0 1 1 = 0, keep 0 = 1, empty 0 = 1, put 0 0 1 1 = 1, restore 0 = 1, marks 0 = 0");
    }

    private static void promises23To25() {
        Script.run("Promise 23: no cards, one, and 800", "count 0 = 0, put 1 0 1 1 = 0, count 1 = 1\n", FALLING,
                "count 0 = 800, count 1 = 1, count 3 = 0");
        String name = "Promise 24: ";
        Script.run(name + "0, 1 and 2",
                "put 0 0 9 9 = 0, put 0 0 MIN MAX = 1, cardAt 0 0 0 = MIN, cardAt 0 0 1 = MAX, cardAt 0 0 2 = 1");
        Script.run(name + "it throws if what is out of range", "put 0 0 9 9 = 0\n",
                Script.each("cardAt 0 0 # = ARGUMENT", -1, 3, 4, "MIN", "MAX"));
        Script.run(name + "it throws if there is no such place", "put 0 0 9 9 = 0\n",
                Script.each("cardAt 0 # 0 = BOUNDS, cardAt 0 # 2 = BOUNDS, cardAt 0 # 3 = BOUNDS",
                        -1, 1, 800, "MIN", "MAX"),
                "cardAt 1 0 0 = BOUNDS");
        Script.run(name + "the places of a full row", FALLING, """
                cardAt 0 0 0 = 800, cardAt 0 799 0 = 1, cardAt 0 799 2 = 799, cardAt 0 800 0 = BOUNDS
                cardAt 0 -1 0 = BOUNDS
                """);
        name = "Promise 25: ";
        Script.run(name + "the first place and the last one", FALLING,
                "placeOf 0 0 = 0, placeOf 0 799 = 799, turn 0 = 800, placeOf 0 0 = 799, placeOf 0 799 = 0");
        Script.run(name + "NONE if it is not there",
                "placeOf 0 0 = -1, put 0 0 7 7 = 0, put 1 0 7 7 = 1, placeOf 0 1 = -1, placeOf 1 0 = -1\n",
                Script.each("placeOf 0 # = -1", -1, 2, 7, 20000, "MIN", "MAX"), "empty 0 = 1, placeOf 0 0 = -1");
        Script.run(name + "the last card that can be made", Script.made(19999),
                "placeOf 0 19999 = -1, put 0 0 1 1 = 19999, placeOf 0 19999 = 0, placeOf 0 20000 = -1");
        Script.run(name + "the least one if it is there twice", "put 0 0 2 2 = 0, put 0 1 1 1 = 1\n",
                Script.doubled(2, 4),
                "placeOf 0 0 = 0, placeOf 0 1 = 1, sort 0 = 2, placeOf 0 1 = 0, placeOf 0 0 = 2");
    }

    private static void promise26() {
        String name = "Promise 26: ";
        Script.run(name + "an empty row", Script.each("placeFor 0 # = 0", 0, -1, "MIN", "MAX"));
        Script.run(name + "behind all cards with the same first number", """
                lays 0 "same 2 4;same 3 5;same 1 7;" = 6, placeFor 0 3 = 0, placeFor 0 4 = 2, placeFor 0 5 = 5
                placeFor 0 6 = 5, placeFor 0 7 = 6, placeFor 0 8 = 6
                """);
        Script.run(name + "over all ints", """
                put 0 0 MIN 1, put 0 1 0 1, put 0 2 MAX 1, placeFor 0 MIN = 1, placeFor 0 -1 = 1, placeFor 0 0 = 2
                placeFor 0 1 = 2, placeFor 0 MAX = 3
                """);
        Script.run(name + "a full row", RISING, """
                placeFor 0 0 = 0, placeFor 0 1 = 1, placeFor 0 799 = 799, placeFor 0 800 = 800, placeFor 0 MAX = 800
                placeFor 0 MIN = 0
                """);
        Script.run(name + "it throws if the row does not rise", """
                put 0 0 5 1, put 0 1 4 1, placeFor 0 4 = STATE, placeFor 0 MIN = STATE, turn 0 = 2, placeFor 0 4 = 1
                """);
        Script.run(name + "it throws if the last card of a full row is less", RISING,
                "move 0 0 799 = 0, placeFor 0 0 = STATE, placeFor 0 MAX = STATE");
        Script.run(name + "it throws if the first card of a full row is greater", RISING,
                "move 0 799 0 = 799, placeFor 0 0 = STATE, placeFor 0 MAX = STATE");
    }

    private static void promises27To29And36() {
        String name = "Promises 27, 28, 29, 36: ";
        Script.run(name + "an empty row: true, 0, 0, 0.0",
                "isSorted 0 = true, runs 0 = 0, longestRun 0 = 0, risingShare 0 = 0.0");
        Script.run(name + "a row that was emptied", """
                put 0 0 2 1, put 0 1 1 1, empty 0 = 2, isSorted 0 = true, runs 0 = 0, longestRun 0 = 0
                risingShare 0 = 0.0
                """);
        Script.run(name + "one card",
                "put 0 0 -7 1, isSorted 0 = true, runs 0 = 1, longestRun 0 = 1, risingShare 0 = 1.0");
        Script.run(name + "a full row that rises", RISING,
                "isSorted 0 = true, runs 0 = 1, longestRun 0 = 800, risingShare 0 = 1.0");
        Script.run(name + "a full row that falls", FALLING,
                "isSorted 0 = false, runs 0 = 800, longestRun 0 = 1, risingShare 0 = 0.00125");
        Script.run(name + "the longest run is the first one",
                "lays 0 \"rise 3 5 1;rise 2 5 1;\" = 5, runs 0 = 2, longestRun 0 = 3, risingShare 0 = 0.6");
        Script.run(name + "the longest run is the last one",
                "lays 0 \"rise 2 5 1;rise 3 5 1;\" = 5, runs 0 = 2, longestRun 0 = 3, risingShare 0 = 0.6");
        Script.run(name + "the longest run is in the middle", """
                lays 0 "fall 2 5 1;rise 2 5 1;fall 2 5 1;" = 6, runs 0 = 4, longestRun 0 = 3, risingShare 0 = 0.5
                """);
        // 1/3 as a float is another number than 1/3 as a double.
        Script.run(name + "the share is a float", """
                lays 0 "fall 3 5 1;" = 3, risingShare 0 = 0.33333334, put 0 3 9 9, put 0 4 9 9, put 0 5 9 9
                put 0 6 0 0, risingShare 0 = 0.5714286
                """);
        Script.run(name + "second numbers mean nothing",
                "put 0 0 1 9, put 0 1 1 8, put 0 2 2 0, isSorted 0 = true, runs 0 = 1, longestRun 0 = 3");
    }

    private static void promises30And31() {
        String name = "Promise 30: ";
        Script.run(name + "no cards, one, and two alike", """
                wrongPairs 0 = 0, put 0 0 5 5, wrongPairs 0 = 0, put 0 0 5 0, wrongPairs 0 = 0, put 0 0 6 6
                wrongPairs 0 = 2
                """);
        Script.run(name + "all pairs of a full row", FALLING,
                "wrongPairs 0 = 319600, cardAt 0 0 0 = 800, cardAt 0 799 0 = 1, turn 0 = 800, wrongPairs 0 = 0");
        Script.run(name + "all cards of a full row are alike",
                "lays 0 \"same 400 0;same 400 0;\" = 800, wrongPairs 0 = 0");
        Script.run(name + "over all ints",
                "put 0 0 MAX 1, put 0 1 0 1, put 0 2 MIN 1, put 0 3 MAX 1, wrongPairs 0 = 3");
        Script.run(name + "a card that is there twice", "put 0 0 2 2, put 0 1 1 1\n", Script.doubled(2, 4),
                "wrongPairs 0 = 3");
        for (int n = 2; n <= 20; n++) {
            Script.run(name + n + " cards that fall", "lays 0 \"fall " + n + " 3 2;\" = " + n,
                    "wrongPairs 0 = " + n * (n - 1) / 2, "wrongPairs 1 = 0");
        }
        name = "Promise 31: ";
        Script.run(name + "no cards, one, and two alike", """
                unlike 0 = 0, put 0 0 0 5, unlike 0 = 1, put 0 0 0 0, unlike 0 = 1, put 0 0 6 6, unlike 0 = 2
                put 0 0 0 0, unlike 0 = 2
                """);
        Script.run(name + "all of a full row are unlike", FALLING, "unlike 0 = 800, cardAt 0 0 0 = 800");
        Script.run(name + "all of a full row are alike", "lays 0 \"same 400 -1;same 400 -1;\" = 800, unlike 0 = 1");
        Script.run(name + "over all ints", """
                put 0 0 MAX 1, put 0 1 MIN 1, put 0 2 MAX 1, put 0 3 -1 1, put 0 4 0 1, put 0 5 MIN 1, unlike 0 = 4
                """);
    }

    private static long sumFrom(int mark, int cards) {
        long sum = 0;
        for (int p = 0; p < cards; p++) {
            sum += (p + 1L) * (mark + p + 1L);
        }
        return sum;
    }

    private static void promise32() {
        String name = "Promise 32: ";
        Script.run(name + "no cards, and the first one",
                "sum 0 = 0, put 0 0 9 9 = 0, sum 0 = 1, put 0 0 9 9 = 1, sum 0 = 4, sum 1 = 0");
        Script.run(name + "a full row", FALLING, "sum 0 = " + sumFrom(0, 800));
        Script.run(name + "a long: the last 800 of 20000 cards", Script.made(19200), FALLING,
                "cardAt 0 799 2 = 19999, sum 0 = " + sumFrom(19200, 800));
        Script.run(name + "a long: 800 times the last card", Script.made(19999), "put 0 0 9 9 = 19999\n",
                Script.doubled(1, 32),
                "keep 0 = 32\n", "pour 0 1, restore 0 = 32\n".repeat(25), "count 1 = 800, sum 1 = " + 20000L * 320400L);
    }

    private static void promise33() {
        String name = "Promise 33: ";
        Script.run(name + "empty rows", """
                compare 0 1 = 0, compare 0 0 = 0, put 1 0 MIN 0, compare 0 1 = -1, compare 1 0 = 1, compare 1 1 = 0
                """);
        Script.run(name + "one ends where the other one goes on",
                "lays 0 \"rise 2 1 1;\" = 2, lays 1 \"rise 3 1 1;\" = 3, compare 0 1 = -1, compare 1 0 = 1");
        Script.run(name + "the first place tells, not the length",
                "put 0 0 5 0, lays 1 \"same 3 4;\" = 3, compare 0 1 = 1, compare 1 0 = -1");
        Script.run(name + "the last place tells", """
                lays 0 "same 400 1;same 399 1;" = 799, lay 1 = 799, put 0 799 1 0, put 1 799 2 0, compare 0 1 = -1
                compare 1 0 = 1, cardAt 1 799 0 = 2, thin 1 0 = 800, compare 0 1 = 1
                """);
        Script.run(name + "the first place at which they are not the same", """
                put 0 0 1 0, put 0 1 2 0, put 0 2 9 0, put 1 0 1 0, put 1 1 3 0, put 1 2 0 0, compare 0 1 = -1
                compare 1 0 = 1
                """);
        Script.run(name + "all are the same", """
                text "draw 400 1 9;draw 400 1 9;", lay 0 = 800, setSeed 1, lay 1 = 800, compare 0 1 = 0
                compare 1 0 = 0
                """);
        Script.run(name + "over all ints", """
                put 0 0 MIN 0, put 1 0 MAX 0, put 2 0 -1 0, put 3 0 0 0, compare 0 1 = -1, compare 1 0 = 1
                compare 2 3 = -1, compare 1 2 = 1, compare 0 3 = -1
                """);
        Script.run(name + "second numbers and marks mean nothing",
                "put 0 0 5 1, put 1 0 5 2, compare 0 1 = 0, compare 1 0 = 0");
    }

    private static void promises34And35() {
        String name = "Promise 34: ";
        Script.run(name + "it throws if the row is empty",
                "middle 0 = NOTHING, put 0 0 4 4, middle 0 = 4, middle 1 = NOTHING, empty 0 = 1, middle 0 = NOTHING");
        Script.run(name + "(number of cards - 1) / 2, rounded down", """
                put 0 0 9 0, middle 0 = 9, put 0 0 8 0, middle 0 = 8, put 0 1 7 0, middle 0 = 8, put 0 3 6 0
                middle 0 = 7, put 0 0 5 0, middle 0 = 7, put 0 0 4 0, middle 0 = 6
                """);
        Script.run(name + "a full row, which stays", FALLING, "middle 0 = 400, cardAt 0 0 0 = 800, cardAt 0 799 0 = 1");
        Script.run(name + "over all ints", """
                put 0 0 MAX 1, put 0 1 MIN 1, middle 0 = MIN, put 0 2 MAX 1, middle 0 = MAX, put 0 3 -1 1
                middle 0 = -1
                """);
        name = "Promise 35: ";
        Script.run(name + "an empty row: 0.0",
                "mean 0 = 0.0, put 0 0 0 9, mean 0 = 0.0, put 0 0 MIN 9, empty 0 = 2, mean 0 = 0.0");
        Script.run(name + "one card", "put 0 0 MAX 9, mean 0 = 2147483647.0, put 1 0 MIN 9, mean 1 = -2147483648.0");
        Script.run(name + "a double", """
                put 0 0 1 9, put 0 1 2 9, mean 0 = 1.5, put 0 2 2 9, mean 0 = 1.6666666666666667, put 1 0 -1 9
                put 1 1 0 9, put 1 2 0 9, mean 1 = -0.3333333333333333
                """);
        Script.run(name + "the sum is a long", """
                put 0 0 MAX 9, put 0 1 1 9, mean 0 = 1073741824.0, put 1 0 MIN 9, put 1 1 -1 9
                mean 1 = -1073741824.5, put 1 2 MAX 9, mean 1 = -0.6666666666666666
                """);
        for (String end : List.of("MAX", "MIN")) {
            String due = end.equals("MAX") ? "2147483647.0" : "-2147483648.0";
            Script.run(name + "the sum of 800 cards is a long: " + end, "put 0 0 # 9\n".replace("#", end).repeat(25),
                    Script.doubled(25, 800),
                    "count 0 = 800, mean 0 = " + due);
        }
    }

    private static void promise37() {
        String name = "Promise 37: always 0, and no row changes: ";
        Script.run(name + "empty rows", "errors = 0", Script.each("count # = 0, restore # = STATE", 0, 1, 2, 3));
        Script.run(name + "one card", "put 2 0 5 5 = 0, errors = 0, marks 2 = 0");
        Script.run(name + "full rows", "text \"draw 400 1 9 mod 7;draw 400 1 9 mod 5;\"\n",
                Script.each("lay # = 800, keep # = 800", 0, 1, 2, 3), "errors = 0, errors = 0\n",
                Script.each("restore # = 0", 0, 1, 2, 3), "put 0 0 1 1 = STATE, empty 0 = 800, put 0 0 1 1 = 3200");
        Script.run(name + "over all ints", """
                put 0 0 MAX MIN, put 0 1 MIN MAX, put 0 2 MAX MAX, put 0 3 MIN MIN, put 0 4 0 0, put 1 0 MAX MIN
                put 1 1 MAX MIN, errors = 0, marks 0 = 0 1 2 3 4, marks 1 = 5 6
                """);
        Script.run(name + "a card that is there twice", "put 0 0 2 2, put 0 1 1 1\n", Script.doubled(2, 4),
                "errors = 0, marks 0 = 0 1 0 1, restore 0 = 2");
        Script.run(name + "behind 20000 cards", Script.made(20000), "errors = 0, type 0 = 0, setSeed 1 = 1");
    }

    public static void main(String[] args) {
        promise01();
        promise02();
        promise03();
        promise04();
        promise05();
        promise06();
        promise07();
        promises08And12And13();
        promise09();
        promise10();
        promise11();
        promises10And11WhatThrows();
        promise14();
        promise15();
        promise16To20();
        promise17();
        promise21();
        promise22();
        promises23To25();
        promise26();
        promises27To29And36();
        promises30And31();
        promise32();
        promise33();
        promises34And35();
        promise37();
        Script.end();
    }
}
