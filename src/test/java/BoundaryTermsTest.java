import java.util.List;

/**
 * The boundary cases of "What it is" and "Terms": a test for each sentence that names one, under its own words.
 */
public final class BoundaryTermsTest {
    /** Cards in all rows, copies that are not as the rows, a text that draws, a seed: much that could change. */
    private static final String RICH = """
            put 0 0 5 1 = 0, put 0 1 7 2 = 1, put 1 0 5 1 = 2, put 1 1 7 2 = 3
            put 2 0 5 1 = 4, put 2 1 7 2 = 5, put 3 0 5 1 = 6, put 3 1 7 2 = 7
            turn 0 = 2, keep 0 = 2, turn 0 = 2, empty 1 = 2, keep 1 = 0, restore 1 = 0
            put 1 0 5 1 = 8, put 1 1 7 2 = 9, keep 2 = 2, keep 3 = 2
            text "draw 1 9 50;", setSeed 77 = 1
            """;

    // ---- what it is

    private static void howLongAnObjectIsUsed() {
        String name = "What it is: an object is used for at most 512 calls: ";
        StringBuilder puts = new StringBuilder();
        for (int n = 0; n < 512; n++) {
            puts.append("put " + n % 4 + " 0 " + n + " " + -n + " = " + n + "\n");
        }
        Script.run(name + "all of them lay cards", puts.toString());
        Script.run(name + "the last ones see all that was done", "put 0 0 5 5 = 0, put 0 0 6 6 = 1\n",
                "turn 0 = 2\n".repeat(507), "marks 0 = 0 1");
        Script.run(name + "the dearest ones too", "text \"draw 400 0 999 mod 9;draw 400 0 999;\"\n",
                Script.each("lay # = 800", 0, 1, 2, 3), "errors = 0\n".repeat(400), "sortAll\n",
                "sortAll = 0\n".repeat(101), "isSorted 3 = true");
        Script.run(name + "20000 cards are made well within them", Script.made(20000), "count 0 = 0\n".repeat(300),
                "put 0 0 1 1 = STATE");
    }

    // ---- 1. cards and rows

    private static final String[] CALLS_OF_A_ROW = {"lay # = 1", "put # 2 9 9 = 10", "sort # = 0", "sortPart # 0 2 = 0",
        "sortDown # 0 2 = 2", "sortBySecond # = 0", "sortByBoth # = 0", "turn # = 2", "move # 0 1", "thin # 9 = 0",
        "single # = 0", "empty # = 2", "keep # = 2", "restore #", "count # = 2", "cardAt # 1 0 = 7",
        "placeOf # 99 = -1", "placeFor # 6 = 1", "isSorted # = true", "runs # = 1", "longestRun # = 2",
        "wrongPairs # = 0", "unlike # = 2", "sum #", "compare # # = 0", "middle # = 5", "mean # = 6.0",
        "risingShare # = 1.0"};

    private static final String[] CALLS_OF_TWO_ROWS = {"pour #other = 4", "deal #other = 1", "compare #other = 0"};

    private static final Object[] NO_ROWS = {-1, 4, -2, 5, 256, "MIN", "MAX"};

    private static void whichRowsThereAre() {
        for (String call : CALLS_OF_A_ROW) {
            String bare = call.split(" =")[0];
            String name = "Terms 1: there are the rows 0 to 3: " + bare;
            for (int row = 0; row < 4; row++) {
                Script.run(name, RICH, Script.each(call, row));
            }
            Script.run(name, RICH, Script.each(bare + " = BOUNDS", NO_ROWS));
        }
        for (String call : CALLS_OF_TWO_ROWS) {
            String bare = call.split(" =")[0];
            String name = "Terms 1: there are the rows 0 to 3: " + bare;
            for (int row = 0; row < 4; row++) {
                Script.run(name, RICH, call.replace("#other", row + " " + (row + 1) % 4));
                Script.run(name, RICH, Script.each(bare.replace("#other", "# " + row) + " = BOUNDS", NO_ROWS));
                Script.run(name, RICH, Script.each(bare.replace("#other", row + " #") + " = BOUNDS", NO_ROWS));
            }
        }
    }

    private static void howManyCardsARowHas() {
        String name = "Terms 1: at most 800 cards in a row: ";
        for (int row = 0; row < 4; row++) {
            String fill = Script.each("lays # \"same 400 1;same 399 1;\" = 799", row);
            Script.run(name + "laid", fill, Script.each("lays # \"same 1 1;\" = 1, count # = 800, lay # = STATE", row));
            Script.run(name + "put", fill,
                    Script.each("put # 799 1 1 = 799, put # 800 1 1 = STATE, count # = 800", row));
        }
        Script.run(name + "poured", """
                lays 0 "same 400 1;" = 400, lay 1 = 400, pour 0 1 = 800
                put 2 0 1 1 = 800, pour 2 1 = STATE
                """);
        Script.run(name + "dealt", """
                lays 0 "same 400 1;same 399 1;" = 799, put 1 0 1 1 = 799, put 1 0 1 1 = 800
                deal 1 0 = 1, count 0 = 800, put 1 0 1 1 = 801, deal 1 0 = STATE
                """);
        Script.run(name + "every row can be full at once", "text \"same 400 1;same 400 1;\"\n",
                Script.each("lay # = 800", 0, 1, 2, 3), Script.each("lay # = STATE", 0, 1, 2, 3), "sortAll = 0");
    }

    private static void whichPlacesThereAre() {
        String name = "Terms 1: the places are 0, 1, and so on: ";
        String three = "lays 2 \"rise 3 10 1;\" = 3\n";
        Script.run(name + "three cards", three, Script.each("cardAt 2 # 2 = #, move 2 # # = #", 0, 1, 2),
                Script.each("cardAt 2 # 2 = BOUNDS, move 2 # 0 = BOUNDS, move 2 0 # = BOUNDS",
                        -1, 3, 4, 799, 800, "MIN", "MAX"));
        Script.run(name + "a full row",
                "lays 3 \"rise 400 0 1;rise 400 0 1;\" = 800, cardAt 3 0 2 = 0, cardAt 3 799 2 = 799\n",
                "move 3 799 799 = 799\n",
                Script.each("cardAt 3 # 2 = BOUNDS, move 3 # 0 = BOUNDS, move 3 0 # = BOUNDS", -1, 800, 801));
        Script.run(name + "an empty row", Script.each("cardAt 0 # 0 = BOUNDS, move 0 # # = BOUNDS", -1, 0, 1));
        Script.run(name + "where cards were, there is no place any more", three, """
                thin 2 0 = 3, cardAt 2 0 0 = BOUNDS, cardAt 2 2 0 = BOUNDS, move 2 0 0 = BOUNDS
                """);
    }

    private static void rowsAreEmptyAtFirst() {
        Script.run("Terms 1: rows are empty at first", Script.each("count # = 0, cardAt # 0 0 = BOUNDS", 0, 1, 2, 3));
    }

    private static void cardsNeverChange() {
        Script.run("Terms 1: a card has a first number, a second number and a mark, and never changes", """
                put 0 0 MIN MAX = 0, put 0 1 MAX MIN = 1, put 0 2 -1 0 = 2, put 0 3 0 -1 = 3
                sort 0 = 3, sortBySecond 0, sortByBoth 0, turn 0 = 4, keep 0 = 4, pour 0 1 = 4, deal 1 2 = 2, sortAll
                pour 1 3 = 2, pour 2 3 = 4, sortDown 3 0 4, put 3 0 5 5 = 4, put 0 0 6 6 = 5, lays 0 "draw 9 9 9;" = 9
                sort 3, marks 3 = 0 2 3 4 1, firsts 3 = MIN -1 0 5 MAX, seconds 3 = MAX 0 -1 5 MIN
                """);
    }

    private static void oneCardInSeveralRows() {
        String name = "Terms 1: behind restore() a card can be in several rows, and twice in one: ";
        String twice = "put 0 0 2 8 = 0, put 0 1 1 9 = 1, keep 0 = 2, pour 0 1 = 2, restore 0 = 2\n";
        Script.run(name + "in several rows", twice, """
                marks 0 = 0 1, marks 1 = 0 1, empty 0 = 2, marks 1 = 0 1, pour 1 3 = 2
                restore 0 = 2, deal 0 2 = 1, marks 0 = 0, marks 2 = 1, marks 3 = 0 1
                """);
        Script.run(name + "twice in one", twice, """
                pour 0 1 = 4, marks 1 = 0 1 0 1, firsts 1 = 2 1 2 1
                thin 1 8 = 2, marks 1 = 1 1, single 1 = 1, put 1 0 0 0 = 2
                """);
        Script.run(name + "800 times", "put 0 0 4 4 = 0\n", Script.doubled(1, 32), "keep 0 = 32\n",
                "pour 0 1, restore 0 = 32\n".repeat(25), """
                count 1 = 800, sum 1 = 320400, placeOf 1 0 = 0, unlike 1 = 1, turn 1 = 800, sort 1 = 0
                pour 0 1 = STATE, put 1 0 1 1 = STATE, put 2 0 1 1 = 1, thin 1 4 = 800
                """);
    }

    private static void howMarksCount() {
        String name = "Terms 1: the marks of cards count from 0 on, over all rows, as the cards are made: ";
        Script.run(name + "over all rows", """
                put 3 0 1 1 = 0, put 0 0 1 1 = 1, lays 2 "same 2 1;same 1 1;" = 3, put 3 0 1 1 = 5, lay 1 = 3
                marks 0 = 1, marks 1 = 6 7 8, marks 2 = 2 3 4, marks 3 = 5 0
                """);
        Script.run(name + "a mark is never given again", """
                put 0 0 1 1 = 0, put 0 0 1 1 = 1, keep 0 = 2, single 0 = 1, thin 0 1 = 1, put 0 0 1 1 = 2
                empty 0 = 1, put 0 0 1 1 = 3, restore 0 = 2, put 0 0 1 1 = 4
                """);
        Script.run(name + "a refused call takes none", """
                text "same 400 1;same 400 1;same 1 1;", lay 0 = STATE
                lays 0 "same 400 1;same 400 1;" = 800, put 0 0 1 1 = STATE, lay 0 = STATE
                put 1 1 1 1 = BOUNDS, put 4 0 1 1 = BOUNDS, put 1 0 1 1 = 800
                """);
    }

    private static void howManyCardsAreMade() {
        String name = "Terms 1: at most 20000 cards are ever made: ";
        Script.run(name + "put", Script.made(19998), "put 0 0 1 1 = 19998, put 1 0 1 1 = 19999\n",
                Script.each("put # 0 1 1 = STATE", 0, 1, 2, 3), "empty 0 = 1, empty 1 = 1, put 0 0 1 1 = STATE");
        Script.run(name + "laid", Script.made(19998), """
                text "same 3 1;", lay 0 = STATE, lays 0 "same 2 1;" = 2, marks 0 = 19998 19999
                lays 0 "" = 0, text "same 1 1;"
                """, Script.each("lay # = STATE", 0, 1, 2, 3));
        Script.run(name + "laid, all at once", Script.made(19200), """
                lays 0 "same 400 1;same 400 1;" = 800, cardAt 0 799 2 = 19999, lay 1 = STATE
                clearText, text "same 1 1;", lay 1 = STATE
                """);
        Script.run(name + "laid, one too many at once", Script.made(19201), """
                text "same 400 1;same 400 1;", lay 0 = STATE, lays 0 "same 400 1;same 399 1;" = 799
                cardAt 0 798 2 = 19999
                """);
        Script.run(name + "restored cards are not made", Script.made(19999), """
                put 0 0 1 1 = 19999, keep 0 = 1, empty 0 = 1, restore 0 = 1, pour 0 1 = 1, restore 0 = 1
                marks 0 = 19999, marks 1 = 19999
                """);
    }

    /** Two reasons at once, for every call that has two. */
    private static void whichExceptionComesFirst() {
        String name = "Terms 1: the exception that is listed first is thrown: ";
        String full = "lays 0 \"same 400 1;same 400 1;\" = 800\n";
        Script.run(name + "lay: no row, a wrong text", RICH, """
                text "wrong", lay 0 = STATE, lay -1 = BOUNDS, lay 4 = BOUNDS
                """);
        Script.run(name + "lay: no row, too many cards", full, "lay 0 = STATE, lay -1 = BOUNDS, lay 4 = BOUNDS");
        Script.run(name + "put: no row or no place, a full row", full,
                "put 0 0 1 1 = STATE, put 0 800 1 1 = STATE, put 0 -1 1 1 = BOUNDS, put 0 801 1 1 = BOUNDS\n",
                Script.each("put # 0 1 1 = BOUNDS, put # -1 1 1 = BOUNDS, put # 801 1 1 = BOUNDS", -1, 4));
        Script.run(name + "lay, put: no row or no place, 20000 cards", Script.made(20000), """
                text "same 1 1;", lay 0 = STATE, lay 4 = BOUNDS, lay -1 = BOUNDS, put 0 0 1 1 = STATE
                put 0 1 1 1 = BOUNDS, put 0 -1 1 1 = BOUNDS, put -1 0 1 1 = BOUNDS, put 4 0 1 1 = BOUNDS
                """);
        Script.run(name + "restore: no row, never kept", "restore 0 = STATE, restore -1 = BOUNDS, restore 4 = BOUNDS");
        Script.run(name + "cardAt: no row or no place, nothing to tell", RICH, """
                cardAt 0 1 3 = ARGUMENT, cardAt 0 1 -1 = ARGUMENT, cardAt 0 2 3 = BOUNDS, cardAt 0 -1 -1 = BOUNDS
                cardAt -1 0 3 = BOUNDS, cardAt 4 0 -1 = BOUNDS
                """);
        Script.run(name + "placeFor: no row, a row that does not rise", RICH, """
                turn 0 = 2, placeFor 0 5 = STATE, placeFor -1 5 = BOUNDS, placeFor 4 5 = BOUNDS
                """);
        Script.run(name + "middle: no row, an empty row", "middle 0 = NOTHING, middle -1 = BOUNDS, middle 4 = BOUNDS");
    }

    private static void whichExceptionOfAPartComesFirst() {
        String name = "Terms 1: the exception that is listed first is thrown: ";
        String forty = "lays 0 \"same 40 1;\" = 40\n";
        for (String call : List.of("sortPart", "sortDown")) {
            Script.run(name + call + ": no row or no place, an end ahead of the beginning", forty, """
                    # 0 3 2 = ARGUMENT, # 0 41 40 = ARGUMENT, # 0 MAX MIN = ARGUMENT
                    # -1 3 2 = BOUNDS, # 4 3 2 = BOUNDS, # 0 -1 -2 = BOUNDS, # 0 42 41 = BOUNDS
                    """.replace("#", call));
        }
        Script.run(name + "sortDown: no row or no place, a part that is too long", forty, """
                sortDown 0 8 40 = ARGUMENT, sortDown 0 9 41 = BOUNDS, sortDown 0 -1 40 = BOUNDS
                sortDown 4 0 40 = BOUNDS, sortDown -1 0 32 = BOUNDS
                sortDown 0 0 MAX = BOUNDS, sortDown 0 MIN MAX = BOUNDS, sortDown 0 MIN 40 = BOUNDS
                """);
    }

    private static void whichExceptionOfTwoRowsComesFirst() {
        String name = "Terms 1: the exception that is listed first is thrown: ";
        String full = "lays 0 \"same 400 1;same 400 1;\" = 800\n";
        for (String call : List.of("pour", "deal")) {
            Script.run(name + call + ": no row, twice the same", RICH, Script.each(call + " # # = BOUNDS", NO_ROWS));
            Script.run(name + call + ": no row, a full row", full,
                    Script.each(call + " 0 # = BOUNDS, " + call + " # 0 = BOUNDS", NO_ROWS));
            Script.run(name + call + ": twice the same, too many cards", full, call + " 0 0 = ARGUMENT");
            Script.run(name + call + ": twice the same, and few cards or none", RICH, call + " 0 0 = ARGUMENT\n",
                    "empty 3 = 2, " + call + " 3 3 = ARGUMENT");
        }
    }

    /** Script looks at all that can be seen whenever a call throws; here each call throws each of its exceptions. */
    private static void whatThrowsChangesNothing() {
        String name = "Terms 1: a call that throws an exception changes nothing: ";
        String rich = RICH + "put 0 0 9 9 = 10, setSeed -5 = 77\n";
        Script.run(name + "no row", rich, """
                lay 4 = BOUNDS, put 4 0 1 1 = BOUNDS, sort 4 = BOUNDS, sortPart 4 0 3 = BOUNDS, sortDown 4 0 3 = BOUNDS
                sortBySecond 4 = BOUNDS, sortByBoth 4 = BOUNDS, pour 0 4 = BOUNDS, pour 4 0 = BOUNDS
                deal 0 4 = BOUNDS, deal 4 0 = BOUNDS, turn 4 = BOUNDS, move 4 0 1 = BOUNDS, thin 4 1 = BOUNDS
                single 4 = BOUNDS, empty 4 = BOUNDS, keep 4 = BOUNDS, restore -1 = BOUNDS
                """);
        Script.run(name + "no place", rich, """
                put 0 -1 1 1 = BOUNDS, put 0 4 1 1 = BOUNDS, sortPart 0 -1 3 = BOUNDS, sortPart 0 0 4 = BOUNDS
                sortDown 0 -1 3 = BOUNDS, sortDown 0 0 4 = BOUNDS, move 0 0 3 = BOUNDS, move 0 3 0 = BOUNDS
                move 0 -1 2 = BOUNDS, move 0 2 -1 = BOUNDS
                """);
        Script.run(name + "an argument", rich, """
                sortPart 0 2 1 = ARGUMENT, sortDown 0 3 0 = ARGUMENT, pour 0 0 = ARGUMENT, deal 0 0 = ARGUMENT
                cardAt 0 0 3 = ARGUMENT, lays 0 "fall 40 9 1;" = 40, sortDown 0 0 32 = ARGUMENT
                """);
        Script.run(name + "the state", rich, """
                lays 0 "draw 400 1 9;draw 390 1 9;" = 790, clearText, text "draw 4 1 9;draw 4 1 9;", lay 0 = STATE
                text "draw", lay 1 = STATE, lays 1 "rise 8 1 1;" = 8, pour 1 0 = STATE
                lays 1 "draw 4 1 9;" = 4, deal 1 0 = 7, deal 1 0 = STATE, put 1 0 3 3 = 813, put 0 1 3 3 = STATE
                turn 1 = 8, placeFor 1 5 = STATE
                """);
        Script.run(name + "never kept, or empty", """
                lays 1 "draw 9 1 9;" = 9, keep 1 = 9, turn 1 = 9, restore 0 = STATE, middle 0 = NOTHING
                lay 0 = 9, restore 0 = STATE
                """);
        Script.run(name + "a text that is too long", "text \"" + " ".repeat(385) + "draw 1 5 9;\"\n", """
                type 0x3b3b3b3b3b = STATE, type -1 = STATE, fault = -1, lay 0 = 1, type 0x20203b20 = 400, fault = 398
                """);
    }

    private static void placesOfParts() {
        String name = "Terms 1: of parts of rows as their calls tell";
        Script.run(name + ": the number of cards is no place, but a part can begin there", """
                lays 0 "fall 3 9 1;" = 3, cardAt 0 3 0 = BOUNDS, sortPart 0 3 3 = 0, sortDown 0 3 3 = 0
                put 0 3 0 0 = 3, cardAt 0 4 0 = BOUNDS, sortPart 0 4 4 = 0, sortDown 0 4 4 = 0
                sortPart 0 5 4 = ARGUMENT, sortDown 0 5 4 = ARGUMENT
                """);
    }

    // ---- 2. texts

    private static void howLongATextIs() {
        Script.run("Terms 2: the text has at most 400 bytes", "text \"" + "same1 7;".repeat(49) + "\"\n",
                "type 0x73616d65312037 = 399, type 0x2020 = STATE, type 0x3b = 400, fault = -1, lay 0 = 50\n",
                Script.each("type # = STATE", 1, 32, 59, -1, "MIN", "MAX"), "lay 0 = 50");
    }

    private static void whatBlanksMean() {
        String name = "Terms 2: blanks separate tokens and mean nothing else";
        String[] right = {" ", "  ", " ".repeat(400), " same 1 1;", "same 1 1; ", "same  1   1    ;", "same1 1;",
            "same1-1;", "same 1 - 1;", "same 1 -1;", "same 1- 1;", "same 1 1mod1;", "same 1 1 mod1;", "same 1 1mod 1;",
            "same 1 1 ;", "same 1 1;same 1 1;", "same 1 1; same 1 1;", "teeth1 1 1 1mod1;",
            " ".repeat(391) + "same1 1;" + " "};
        for (String text : right) {
            Script.fault(name, text, -1);
        }
        Script.fault(name, "sa me 1 1;", 0);
        Script.fault(name, " sa me 1 1;", 1);
        Script.fault(name, "same 1 1 mo d 1;", 9);
        Script.fault(name, "same 4 00 1;", 10);
        Script.fault(name, "same 1 1 0;", 9);
        Script.fault(name, "same 1 1 ; ;", 11);
    }

    private static void whatAWordIs() {
        String name = "Terms 2: a word is a row of letters a to z, as long as possible";
        for (String word : List.of("samea", "samez", "asame", "zsame", "samesame", "samerise", "sam", "a", "mod")) {
            Script.fault(name, word + " 1 1;", 0);
            Script.fault(name, word, 0);
        }
        for (String word : List.of("moda", "modz", "amod", "zmod", "modmod", "mo", "m")) {
            Script.fault(name, "same 1 1 " + word + " 1;", 9);
            Script.fault(name, "same 1 1" + word + "1;", 8);
        }
        // The bytes on either side of a and z, and the capital ones, are no letters.
        for (char other : new char[] {'`', '{', '@', '[', 'A', 'Z', 'E'}) {
            Script.fault(name, "same" + other + " 1 1;", 4);
            Script.fault(name, other + "same 1 1;", 0);
            Script.fault(name, "same 1 1 mod" + other + "1;", 12);
        }
        Script.fault(name, "Same 1 1;", 0);
        Script.fault(name, "samE 1 1;", 0);
        Script.fault(name, "SAME 1 1;", 0);
        Script.fault(name, "same 1 1 MOD 1;", 9);
        Script.fault(name, "a".repeat(400), 0);
    }

    private static void whatANumberIs() {
        String name = "Terms 2: a number is a row of digits, as long as possible";
        Script.fault(name, "same 90 1;", -1);
        Script.fault(name, "same 09 90;", -1);
        // The bytes on either side of 0 and 9, and some that other texts would take for parts of numbers.
        for (char other : new char[] {'/', ':', '.', ',', '+', 'O', (char) 178}) {
            Script.fault(name, "same 1" + other + " 1;", 6);
            Script.fault(name, "same " + other + "1 1;", 5);
            Script.fault(name, "same 1 1" + other + ";", 8);
        }
        Script.fault(name, "same 4010;", 5);
        Script.fault(name, "same 11;", 7);
        Script.fault(name, "same 1 99990;", 7);
        Script.fault(name, "rise 1 1 9990;", 9);
        Script.fault(name, "same 1 1 mod990;", 12);
        Script.fault(name, "same 1a1;", 6);
    }

    private static void whatASignIs() {
        String name = "Terms 2: the signs ; and - are tokens of one byte";
        Script.fault(name, ";", 0);
        Script.fault(name, "-", 0);
        Script.fault(name, "same 1 1;;", 9);
        Script.fault(name, "same 1 1; ;", 10);
        Script.fault(name, "same 1 --1;", 8);
        Script.fault(name, "same 1 - -1;", 9);
        Script.fault(name, "same 1 -;", 8);
        Script.fault(name, "same 1 -;1", 8);
        Script.fault(name, "same 1 ;-", 7);
        Script.fault(name, "same 1 1-;", 8);
        Script.fault(name, "same 1 1;-", 9);
        Script.fault(name, "same -1 1;", 5);
        Script.fault(name, "-same 1 1;", 0);
    }

    private static void whatAnyOtherByteIs() {
        for (int b = 1; b < 256; b++) {
            String name = "Terms 2: any other byte is a token that can stand nowhere, byte " + b;
            char c = (char) b;
            boolean isLetter = c >= 'a' && c <= 'z';
            boolean isDigit = c >= '0' && c <= '9';
            Script.fault(name, "same 1 1;" + c, c == ' ' ? -1 : 9);
            Script.fault(name, c + "", c == ' ' ? -1 : 0);
            Script.fault(name, "same 1 1" + c + ";", c == ' ' || isDigit ? -1 : c == ';' ? 9 : 8);
            if (c != ' ' && !isLetter && !isDigit) {
                Script.fault(name, "same" + c + "1 1;", 4);
                Script.fault(name, "same 1" + c + "1;", c == '-' ? -1 : 6);
                Script.fault(name, "same 1 1 mod" + c + c + "1;", 12);
                Script.fault(name, c + "" + c, 0);
            }
        }
    }

    private static final String[] KINDS = {"same", "rise", "fall", "wave", "draw", "teeth"};

    private static final String[] TOKENS =
            {"same", "rise", "fall", "wave", "draw", "teeth", "mod", "x", "2", "-", ";", "!"};

    /** What has to stand behind a word: "n" a number, "s" a start, "t" a divisor or the end. */
    private static String shapeOf(String kind) {
        return kind.equals("same") ? "nst" : kind.equals("teeth") ? "nsnnt" : "nsnt";
    }

    /** What stands behind the start of a run of a kind. */
    private static String restOf(String kind) {
        return kind.equals("same") ? "" : kind.equals("teeth") ? " 2 5" : " 2";
    }

    /** Every token at every place of every kind of run: it can stand there, or it is the fault. */
    private static void whatCanStandWhere() {
        for (String kind : KINDS) {
            String name = "Terms 2: the text is right if it follows these rules: " + kind;
            everyToken(name, "", 'k');
            String text = kind + " ";
            for (char what : shapeOf(kind).toCharArray()) {
                everyToken(name, text, what);
                if (what == 's') {
                    everyToken(name, text + "- ", 'n');
                }
                text += what == 't' ? "mod " : "2 ";
            }
            everyToken(name, text, 'n');
            everyToken(name, text + "2 ", ';');
            everyToken(name, text + "2 ; ", 'k');
        }
    }

    /** Every token where something is wanted: as in the shapes, or "k" the word of a kind or the end. */
    private static void everyToken(String name, String ahead, char wanted) {
        Script.fault(name, ahead, wanted == 'k' ? -1 : ahead.length());
        for (String token : TOKENS) {
            boolean fits = switch (wanted) {
                case 'k' -> List.of(KINDS).contains(token);
                case 'n' -> token.equals("2");
                case 's' -> token.equals("2") || token.equals("-");
                case 't' -> token.equals("mod") || token.equals(";");
                default -> token.equals(";");
            };
            String text = ahead + token;
            Script.fault(name, text, !fits ? ahead.length() : token.equals(";") ? -1 : text.length());
            Script.fault(name, text + " !", fits ? text.length() + 1 : ahead.length());
        }
    }

    private static void faults(String name, String ahead, String behind, int due, String... numbers) {
        for (String number : numbers) {
            Script.fault(name, ahead + number + behind, due);
        }
    }

    /** A number at its place in a text: the least and the greatest of its range, those beside them, and long ones. */
    private static void range(String name, String ahead, String behind, int least, int most) {
        String padded = "0".repeat(4 - ("" + most).length()) + most;
        faults(name, ahead, behind, -1, "" + least, "0" + least, "000" + least, "" + (least + 1),
                "" + (most - 1), "" + most, padded);
        faults(name, ahead, behind, ahead.length(), "" + (most + 1), "0" + (most + 1), "" + most * 10,
                "99999", "10000");
        if (least > 0) {
            faults(name, ahead, behind, ahead.length(), "0", "00", "0000");
        }
        String told = "Terms 2: a number of more than 4 digits is out of its range, whatever its value: " + name;
        faults(told, ahead, behind, ahead.length(), "0000" + least, "0000" + most, "00000", "00001",
                "0".repeat(299) + "1", "2147483648", "4294967297", "4294967298", "18446744073709551617",
                "9".repeat(300));
    }

    private static void whichNumbersAreInRange() {
        for (String kind : KINDS) {
            String rest = restOf(kind);
            range("Terms 2: the count is 1 to 400", kind + " ", " 3" + rest + ";", 1, 400);
            range("Terms 2: the number of the start is 0 to 9999", kind + " 1 ", rest + ";", 0, 9999);
            range("Terms 2: the number of the start is 0 to 9999", kind + " 1 -", rest + ";", 0, 9999);
            range("Terms 2: the divisor is 1 to 99", kind + " 1 3" + rest + " mod ", ";", 1, 99);
            if (!kind.equals("same")) {
                range("Terms 2: the step is 0 to 999", kind + " 1 3 ", kind.equals("teeth") ? " 5;" : ";", 0, 999);
            }
        }
        range("Terms 2: the length is 1 to 99", "teeth 1 3 2 ", ";", 1, 99);
        // Only a start can be below 0.
        faults("Terms 2: the count is 1 to 400", "same ", " 1;", 5, "-1", "-0", "-400");
        faults("Terms 2: the step is 0 to 999", "rise 1 1 ", ";", 9, "-1", "-0", "-999");
        faults("Terms 2: the length is 1 to 99", "teeth 1 1 1 ", ";", 12, "-1", "-0", "-99");
        faults("Terms 2: the divisor is 1 to 99", "same 1 1 mod ", ";", 13, "-1", "-0", "-99");
    }

    private static void anEmptyTextIsRight() {
        Script.fault("Terms 2: an empty text is right", "", -1);
        Script.run("Terms 2: an empty text is right", """
                fault = -1, lay 0 = 0, count 0 = 0, put 0 0 1 1 = 0, lay 0 = 0, count 0 = 1
                """);
    }

    private static void howManyCardsARunMakes() {
        for (String kind : KINDS) {
            String rest = " 3" + restOf(kind);
            Script.run("Terms 2: a run makes as many cards as its count tells: " + kind, """
                    lays 0 "# 1&;" = 1, count 0 = 1, lays 1 "# 400&;" = 400, count 1 = 400, cardAt 1 399 2 = 400
                    lays 2 "# 2&;# 3&;" = 5, count 2 = 5
                    """.replace("#", kind).replace("&", rest));
        }
    }

    private static void whichFirstNumbersARunHas() {
        String name = "Terms 2: the first number of card k: ";
        Script.run(name + "the start", """
                lays 0 "same 400 -9999;" = 400, cardAt 0 0 0 = -9999, cardAt 0 399 0 = -9999, unlike 0 = 1
                lays 1 "same 2 9999;same 1 0;same 1 -0;same 1 -1;" = 5, firsts 1 = 9999 9999 0 0 -1
                """);
        Script.run(name + "the start plus k times the step", """
                lays 0 "rise 400 9999 999;" = 400, cardAt 0 0 0 = 9999, cardAt 0 1 0 = 10998, cardAt 0 399 0 = 408600
                lays 1 "rise 400 -9999 999;" = 400, cardAt 1 0 0 = -9999, cardAt 1 399 0 = 388602
                lays 2 "rise 3 -1 0;rise 3 -1 1;" = 6, firsts 2 = -1 -1 -1 -1 0 1
                """);
        Script.run(name + "the start less k times the step", """
                lays 0 "fall 400 -9999 999;" = 400, cardAt 0 0 0 = -9999, cardAt 0 1 0 = -10998
                cardAt 0 399 0 = -408600, lays 1 "fall 400 9999 999;" = 400, cardAt 1 0 0 = 9999
                cardAt 1 399 0 = -388602, lays 2 "fall 3 1 0;fall 3 1 1;" = 6, firsts 2 = 1 1 1 1 0 -1
                """);
        Script.run(name + "the start if k is even, otherwise the start plus the step", """
                lays 0 "wave 400 9999 999;" = 400, cardAt 0 0 0 = 9999, cardAt 0 1 0 = 10998
                cardAt 0 398 0 = 9999, cardAt 0 399 0 = 10998
                lays 1 "wave 1 3 5;wave 3 -9999 999;wave 2 4 0;" = 6, firsts 1 = 3 -9999 -9000 -9999 4 4
                """);
        Script.run(name + "the start plus the step times the rest of k divided by the length", """
                lays 0 "teeth 400 9999 999 99;" = 400, cardAt 0 0 0 = 9999, cardAt 0 98 0 = 107901, cardAt 0 99 0 = 9999
                cardAt 0 100 0 = 10998, cardAt 0 399 0 = 12996
                lays 1 "teeth 3 -9999 999 1;teeth 5 -1 0 2;teeth 5 -1 1 2;teeth 2 7 7 99;" = 15
                firsts 1 = -9999 -9999 -9999 -1 -1 -1 -1 -1 -1 0 -1 0 -1 7 14
                """);
        Script.run(name + "k goes from 0 on in each run", """
                lays 0 "rise 2 0 1;rise 2 0 1;wave 1 0 9;wave 1 0 9;" = 6, firsts 0 = 0 1 0 1 0 0
                lay 0 = 6, firsts 0 = 0 1 0 1 0 0 0 1 0 1 0 0
                """);
    }

    private static void whichSecondNumbersARunHas() {
        String name = "Terms 2: the second number is the rest of k divided by the divisor; 0 without one: ";
        Script.run(name + "1 and 2", """
                lays 0 "rise 4 5 5 mod 1;rise 5 5 5 mod 2;" = 9, seconds 0 = 0 0 0 0 0 1 0 1 0
                """);
        Script.run(name + "99", """
                lays 0 "same 400 5 mod 99;" = 400, cardAt 0 98 1 = 98, cardAt 0 99 1 = 0, cardAt 0 197 1 = 98
                cardAt 0 198 1 = 0, cardAt 0 399 1 = 3
                """);
        Script.run(name + "without one", """
                lays 0 "same 3 5 mod 3;same 3 5;rise 1 7 7 mod 9;teeth 4 7 7 7;" = 11, seconds 0 = 0 1 2 0 0 0 0 0 0 0 0
                """);
        for (String kind : KINDS) {
            String run = kind + " 3 3" + restOf(kind);
            Script.run(name + kind, "lays 0 \"" + run + " mod 2;" + run + ";\" = 6, seconds 0 = 0 1 0 0 0 0");
        }
    }

    /** The next seed, in wider numbers than the int that goes round. */
    private static int nextSeed(int seed) {
        return (int) Math.floorMod(seed * 1103515245L + 12345L, 1L << 32);
    }

    private static int drawn(int seed, int n) {
        return (int) ((seed & 0xffffffffL) / 65536 % n);
    }

    private static void whatADrawIs() {
        String name = "Terms 2: a draw of n: ";
        Script.run(name + "the seed is 1 at first", "lays 0 \"draw 1 0 999;\" = 1\n",
                "firsts 0 = " + drawn(nextSeed(1), 1000), "setSeed 1 = " + nextSeed(1), "setSeed 9 = 1");
        int below = 0;
        int[] seeds = {0, 1, -1, 2, 3, 5, 77, 65535, 65536, Integer.MAX_VALUE, Integer.MIN_VALUE, 1103515245};
        for (int seed : seeds) {
            int next = nextSeed(seed);
            int second = nextSeed(next);
            below += next < 0 ? 1 : 0;
            Script.run(name + "both as ints that go round, and no draw is below 0: seed " + seed,
                    "setSeed " + seed + " = 1", "lays 3 \"draw 2 0 999;\" = 2\n",
                    "firsts 3 = " + drawn(next, 1000) + " " + drawn(second, 1000), "setSeed 4 = " + second,
                    "setSeed " + seed + " = 4", "lays 2 \"draw 1 -9999 6;draw 1 9999 1;\" = 2\n",
                    "firsts 2 = " + (-9999 + drawn(next, 7)) + " " + (9999 + drawn(second, 2)),
                    "setSeed 4 = " + second);
        }
        if (below < 3) {
            throw new AssertionError("too few of the seeds become ones below 0");
        }
        Script.run(name + "n is the step plus 1: a step of 0 draws 0, but draws", "setSeed 8 = 1",
                "lays 0 \"draw 3 6 0;\" = 3, firsts 0 = 6 6 6", "setSeed 1 = " + nextSeed(nextSeed(nextSeed(8))));
        Script.run(name + "only draw draws", """
                lays 0 "same 3 6;rise 3 6 6;fall 3 6 6;wave 3 6 6;teeth 3 6 6 6;" = 15, fault = -1, errors = 0
                setSeed 1 = 1
                """);
        Script.run(name + "what is refused draws nothing", """
                lays 0 "draw 400 1 9;draw 400 1 9;" = 800, setSeed 6, lay 0 = STATE
                clearText, text "draw 1 1 1; draw", lay 1 = STATE, setSeed 1 = 6
                """);
    }

    // ---- 3. sorting

    private static final String[] SORTS_OF_A_ROW = {"sort 0", "sortAll", "sortBySecond 0", "sortByBoth 0"};

    private static void inWhichOrderSortsBring() {
        String name = "Terms 3: ";
        String ends = "put 0 0 MAX 0 = 0, put 0 1 0 MAX = 1, put 0 2 MIN -1 = 2, put 0 3 -1 MIN = 3, put 0 4 1 1 = 4\n";
        Script.run(name + "the least first number first, over all ints", ends, """
                sort 0 = 5, firsts 0 = MIN -1 0 1 MAX, sortDown 0 0 5 = 4, firsts 0 = MAX 1 0 -1 MIN
                """);
        Script.run(name + "to sort by second numbers is the same by these, over all ints", ends, """
                sortBySecond 0 = 5, seconds 0 = MIN -1 0 1 MAX
                """);
        Script.run(name + "the order of both, over all ints", """
                put 0 0 MAX MAX = 0, put 0 0 MAX MIN = 1, put 0 0 MIN MAX = 2, put 0 0 MIN MIN = 3, put 0 0 MAX 0 = 4
                sortByBoth 0 = 4, marks 0 = 3 2 1 4 0
                """);
    }

    private static void whatStaysInItsOrder() {
        String name = "Terms 3: cards with the same number stay in their order: ";
        String alike = "lays 0 \"same 400 7;same 400 7;\" = 800\n";
        for (String call : SORTS_OF_A_ROW) {
            Script.run(name + "800 of them: " + call, alike, call + " = 0, sum 0 = " + sumOfPlaces(800));
        }
        for (String call : List.of("sortPart 0 0 800", "sortPart 0 1 799", "sortDown 0 0 31", "sortDown 0 769 800")) {
            Script.run(name + "800 of them: " + call, alike, call + " = 0, sum 0 = " + sumOfPlaces(800));
        }
        for (int n = 2; n <= 33; n++) {
            StringBuilder due = new StringBuilder("marks 0 =");
            for (int odd = 0; odd < 2; odd++) {
                for (int mark = n - 1; mark >= 0; mark--) {
                    due.append(mark % 2 == odd ? " " + mark : "");
                }
            }
            Script.run(name + n + " cards", "lays 0 \"wave " + n + " 1 1;\" = " + n, "turn 0 = " + n, "sort 0\n",
                    due.toString());
        }
    }

    /** What sum tells if each of so many cards is at the place of its mark. */
    private static long sumOfPlaces(long cards) {
        return cards * (cards + 1) * (2 * cards + 1) / 6;
    }

    private static void whatASortTells() {
        String name = "Terms 3: a call that sorts tells how many places have another card than ahead of it: ";
        for (String call : SORTS_OF_A_ROW) {
            Script.run(name + "none of an empty row, or of one card: " + call,
                    call + " = 0, put 0 0 4 4 = 0, " + call + " = 0");
        }
        Script.run(name + "none of an empty part, or of one card", """
                sortPart 0 0 0 = 0, sortDown 0 0 0 = 0, put 0 0 4 4 = 0, sortPart 0 0 1 = 0, sortDown 0 0 1 = 0
                """);
        Script.run(name + "all", "lays 0 \"fall 400 9999 1;fall 400 9000 1;\" = 800, sort 0 = 800");
        Script.run(name + "all but the one in the middle", """
                lays 0 "fall 31 9 1;" = 31, sort 0 = 30, sortDown 0 0 31 = 30, sortPart 0 0 31 = 30
                """);
        Script.run(name + "a like card is another one", """
                put 0 0 2 2 = 0, put 0 1 1 1 = 1, put 0 2 1 1 = 2, sort 0 = 3, marks 0 = 1 2 0
                turn 0 = 3, sortBySecond 0 = 3, marks 0 = 2 1 0
                """);
        Script.run(name + "the same card is not another one", "put 0 0 2 2 = 0, put 0 1 1 1 = 1\n",
                Script.doubled(2, 4),
                "marks 0 = 0 1 0 1, sort 0 = 2, marks 0 = 1 1 0 0, sort 0 = 0, turn 0 = 4, sortByBoth 0 = 4");
    }

    private static void whatRises() {
        String name = "Terms 3: a stretch rises if no card of it has a lesser first number than the card ahead of it: ";
        Script.run(name + "the empty one", "isSorted 0 = true, runs 0 = 0, longestRun 0 = 0, placeFor 0 5 = 0");
        Script.run(name + "one card", "put 0 0 MIN 9 = 0, isSorted 0 = true, runs 0 = 1, longestRun 0 = 1");
        Script.run(name + "like ones", """
                lays 0 "same 400 -3;same 400 -3;" = 800, isSorted 0 = true, runs 0 = 1, longestRun 0 = 800
                """);
        Script.run(name + "from MIN to MAX", """
                put 0 0 MIN 9 = 0, put 0 1 MAX 1 = 1, isSorted 0 = true, runs 0 = 1, longestRun 0 = 2
                """);
        Script.run(name + "not from MAX to MIN", """
                put 0 0 MAX 1 = 0, put 0 1 MIN 9 = 1, isSorted 0 = false, runs 0 = 2, longestRun 0 = 1
                """);
        Script.run(name + "not with one less by one",
                "put 0 0 5 1 = 0, put 0 1 4 9 = 1, isSorted 0 = false, runs 0 = 2");
        Script.run(name + "not with the last card alone", """
                lays 0 "rise 400 1 1;rise 399 401 1;" = 799, isSorted 0 = true, put 0 799 798 0 = 799
                isSorted 0 = false, runs 0 = 2, longestRun 0 = 799
                """);
        Script.run(name + "not with the first card alone", """
                put 0 0 2 0 = 0, lays 0 "rise 400 1 1;rise 399 401 1;" = 799, isSorted 0 = false, runs 0 = 2
                longestRun 0 = 799
                """);
    }

    private static void whatRunsAre() {
        String name = "Terms 3: the runs of a row are its stretches that rise and can't be made longer: ";
        Script.run(name + "one of each card", """
                lays 0 "fall 400 800 1;fall 400 400 1;" = 800, runs 0 = 800, longestRun 0 = 1
                """);
        Script.run(name + "two", "lays 0 \"rise 400 1 1;rise 400 399 1;\" = 800, runs 0 = 2, longestRun 0 = 400");
        Script.run(name + "what goes on is one", """
                lays 0 "rise 400 1 1;rise 400 400 1;" = 800, runs 0 = 1, longestRun 0 = 800
                """);
        Script.run(name + "teeth", "lays 0 \"teeth 400 1 1 99;\" = 400, runs 0 = 5, longestRun 0 = 99");
    }

    public static void main(String[] args) {
        howLongAnObjectIsUsed();
        whichRowsThereAre();
        howManyCardsARowHas();
        whichPlacesThereAre();
        rowsAreEmptyAtFirst();
        cardsNeverChange();
        oneCardInSeveralRows();
        howMarksCount();
        howManyCardsAreMade();
        whichExceptionComesFirst();
        whichExceptionOfAPartComesFirst();
        whichExceptionOfTwoRowsComesFirst();
        whatThrowsChangesNothing();
        placesOfParts();
        howLongATextIs();
        whatBlanksMean();
        whatAWordIs();
        whatANumberIs();
        whatASignIs();
        whatAnyOtherByteIs();
        whatCanStandWhere();
        whichNumbersAreInRange();
        anEmptyTextIsRight();
        howManyCardsARunMakes();
        whichFirstNumbersARunHas();
        whichSecondNumbersARunHas();
        whatADrawIs();
        inWhichOrderSortsBring();
        whatStaysInItsOrder();
        whatASortTells();
        whatRises();
        whatRunsAre();
        Script.end();
    }
}
