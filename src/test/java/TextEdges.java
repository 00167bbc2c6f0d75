/** What it is, and part 1 of the terms: joints, scale, people, sorts, and the texts that tell them. */
final class TextEdges {
    private static final int NONE = -1;
    private static final String WHAT = "What it is";
    private static final String TERMS = "Terms";
    private static final String FOURTEEN = Edges.clauses(14, "hall 2");
    private static final String SIX = Edges.clauses(6, "hero 1");
    private static final String SIX_SORTS = Edges.clauses(6, "sort 1 1");

    private TextEdges() {
    }

    static void tell(Edges e) {
        joints(e);
        calls(e);
        scale(e);
        people(e);
        sorts(e);
        letters(e);
        clauses(e);
        forms(e);
        halls(e);
        seventh(e);
        signs(e);
        earlierTexts(e);
        firstFault(e);
        numbers(e);
        endTooSoon(e);
        order(e);
        anew(e);
    }

    private static void joints(Edges e) {
        e.sentence(WHAT, "JOINTS are 0 (the thigh) .. j less 1 (the heel; j 2 ..");
        e.fault("hall 0", 5);
        e.fault("hall 1", 5);
        e.fault("hall 2", NONE);
        e.run("told hall 2;hero 0", "count 0 = 2", "need 0 -1..2 = UNKNOWN 40 32 UNKNOWN");
        e.sentence(TERMS, "9; 5 at first), each there once at a FEAST.");
        e.fault("hall 9", NONE);
        e.fault("hall 10", 5);
        e.run("told hall 9;hero 0", "count 0 = 9", "need 0 -1..9 = UNKNOWN 40 32 24 16 8 0 0 0 0 UNKNOWN");
        e.run("count 0 = 5", "seen 0 4 = 1", "seen 0 5 = UNKNOWN");
        e.run("told hero 99", "need 0 4..5 = 0 UNKNOWN");
        e.run("told hall 2;scale 0 1;" + Edges.clauses(6, "hero 0"), "feast = 3",
            "person 0..5 6 = 0 1 NONE NONE NONE NONE", "feast = 3", "person 0..5 7 = 2 2 0 0 0 0");
        e.run("told hall 9;scale 0 1;" + Edges.clauses(6, "hero 0"), "feast = 63", "person 0..5 6 = 0 1 2 3 4 5");
    }

    private static void calls(Edges e) {
        e.sentence(WHAT, "An object is used for at most 512 calls after it has been made; what later calls answer is free.");
        e.run("511 x year", "year = 512");
        e.run("160 x write 32", "erase = 160", "160 x write 32", "erase = 160", "160 x write 32", "29 x write 32 = FULL",
            "erase = 160");
    }

    private static void scale(Edges e) {
        e.sentence(TERMS, "THE SCALE is a BASE (0 .. 99; 40 at first) and a STEP (1 .. 20; 8):");
        e.run("count 4..5 = 40 8");
        e.run("scale 0 1 = 40", "count 4..5 = 0 1", "scale 99 20 = 0", "count 4..5 = 99 20");
        e.run("scale -1 8 = OUTSIDE", "scale 100 8 = OUTSIDE", "scale 40 0 = OUTSIDE", "scale 40 21 = OUTSIDE",
            "scale 40 -1 = OUTSIDE", "count 4..5 = 40 8");
        e.fault("scale 0 1", NONE);
        e.fault("scale 99 20", NONE);
        e.fault("scale 100 20", 6);
        e.fault("scale 0 0", 8);
        e.fault("scale 99 21", 9);
        e.sentence(TERMS, "JOINT k is for a SCORE of BASE less k times STEP, or more.");
        e.run("told hall 3;scale 20 5;hero 60", "gets 0 = 0");
        e.run("told hall 3;scale 20 5;hero 57", "gets 0 = 1");
        e.run("told hall 3;scale 20 5;hero 45", "gets 0 = 1");
        e.run("told hall 3;scale 20 5;hero 42", "gets 0 = 2");
        e.run("told hall 3;scale 20 5;hero 30", "gets 0 = 2");
        e.run("told hall 3;scale 20 5;hero 27", "gets 0 = NONE");
        e.run("told hall 9;scale 99 12;hero 9;sort 20 0", "gets 0 = 8", "5 x deed 0 0", "gets 0 = 0");
        e.run("told hall 9;scale 99 12;hero 8", "gets 0 = NONE");
        e.run("told hall 2;scale 1 20;hero 0", "gets 0 = 1");
        e.run("told hall 9;scale 0 20;hero 0", "gets 0 = 0");
    }

    private static void people(Edges e) {
        e.sentence(TERMS, "PEOPLE are 0, 1 .. as they come, 6 at most (none at first):");
        e.run("count 1 = 0", "person 0 0 = UNKNOWN", "gets 0 = UNKNOWN", "feast = NOT");
        e.run("told child 1;hero 2", "told boaster 3", "person 0..2 0 = 3 0 1", "person 0..3 1 = 1 2 3 UNKNOWN");
        e.run("told hero 1;hero 2;hero 3;hero 4;hero 5;hero 6", "count 1 = 6", "person -1..6 1 = UNKNOWN 1 2 3 4 5 6 UNKNOWN");
        e.fault(SIX, NONE);
        e.fault(SIX + ";hero 1", 42);
        e.sentence(TERMS, "of a KIND, 0 HERO, 1 BOASTER, 2 MODEST, 3 CHILD;");
        e.run("told hero 1;boaster 1;modest 1;child 1", "person 0..3 0 = 0 1 2 3");
        e.sentence(TERMS, "with FAME (0 .. 99), GAIN, FEAR of this YEAR (0 at first).");
        for (String word : new String[] {"hero", "boaster", "modest", "child"}) {
            e.fault(word + " 0", NONE);
            e.fault(word + " 99", NONE);
            e.fault(word + " 100", word.length() + 1);
            e.run("told " + word + " 0;" + word + " 99", "person 0..1 1 = 0 99", "person 0..1 2 = 0 0", "person 0..1 3 = 0 0");
        }
        e.run("told hero 0;sort 4 3", "deed 0 0", "person 0 2..3 = 4 3", "year", "person 0 2..3 = 0 0");
    }

    private static void sorts(Edges e) {
        e.sentence(TERMS, "SORTS of deeds are 0, 1 .., 6 at most, each of a GAIN (0 .. 20) and a FEAR (0 .. 20).");
        e.run("count 2 = 0", "sort 0 0 = UNKNOWN");
        e.run("told sort 0 0;sort 20 20;sort 0 20", "told sort 20 0;sort 1 2;sort 3 4", "count 2 = 6",
            "sort -1..6 0 = UNKNOWN 0 20 0 20 1 3 UNKNOWN", "sort 0..5 1 = 0 20 20 0 2 4");
        e.fault("sort 0 0", NONE);
        e.fault("sort 20 20", NONE);
        e.fault("sort 21 20", 5);
        e.fault("sort 20 21", 8);
        e.fault(SIX_SORTS, NONE);
        e.fault(SIX_SORTS + ";sort 1 1", 54);
    }

    private static void letters(Edges e) {
        e.sentence(TERMS, "THE TEXT is a row of letters, 160 at most:");
        e.run("159 x write 32", "write 32 = 160", "write 32 = FULL", "count 9 = 160");
        e.run("text " + " ".repeat(154) + "hero 7", "count 9 = 160", "fault = NONE", "hall = 1", "person 0 1 = 7");
        e.run("text " + " ".repeat(153) + "hero 78" + "9", "count 9 = 160", "fault = NONE", "hall = 1", "person 0 1 = 78");
        e.run("text " + " ".repeat(154) + "hero 7" + "x", "write 120 = FULL", "hall = 1", "count 9 = 0", "write 120 = 1");
    }

    private static void clauses(Edges e) {
        e.sentence(TERMS, "CLAUSES with ; between, 14 at most;");
        e.fault(FOURTEEN, NONE);
        // behind the fourteenth nothing can stand, not even the ; itself
        e.fault(FOURTEEN + ";", 97);
        e.fault(FOURTEEN + ";hall 2", 97);
        e.fault(FOURTEEN + " ; hall 2", 98);
        e.fault(FOURTEEN + "  ", NONE);
        e.fault(Edges.clauses(13, "hall 2") + ";", 91);
        e.run("text " + FOURTEEN, "hall = 14", "text " + FOURTEEN, "hall = 14");
        e.run("text hall 2", "hall = 1");
        e.fault("", 0);
        e.fault(";", 0);
        e.fault(";hall 2", 0);
        e.fault("hall 2;", 7);
        e.fault("hall 2;;hall 2", 7);
        e.fault("hall 2 hall 2", 7);
        e.fault("hall 2,hall 2", 6);
    }

    private static void forms(Edges e) {
        e.sentence(TERMS, "each is one of: hall J. scale B S. hero F. boaster F. modest F. child F. sort G R.");
        for (String word : new String[] {"hall", "hero", "boaster", "modest", "child", "scale", "sort"}) {
            for (int i = 0; i < word.length(); i++) {
                e.fault(word.substring(0, i) + "z" + word.substring(i + 1) + " 2 2", 0);
            }
        }
        for (String word : new String[] {"hall", "hero", "boaster", "modest", "child"}) {
            int behind = word.length();
            e.fault(word + " 2", NONE);
            e.fault(word, behind);
            e.fault(word + ";" + word + " 2", behind);
            e.fault(word + " 2 2", behind + 3);
            e.fault(word + "s 2", 0);
            e.fault(word.substring(0, behind - 1) + " 2", 0);
            e.fault(word.substring(1) + " 2", 0);
        }
        for (String word : new String[] {"scale", "sort"}) {
            int behind = word.length();
            e.fault(word + " 2 2", NONE);
            e.fault(word, behind);
            e.fault(word + " 2", behind + 2);
            e.fault(word + " 2;" + word + " 2 2", behind + 2);
            e.fault(word + " 2 2 2", behind + 5);
            e.fault(word + "s 2 2", 0);
            e.fault(word.substring(0, behind - 1) + " 2 2", 0);
        }
        e.fault("person 2", 0);
        e.fault("poet 2", 0);
        e.fault("hallhero 2", 0);
        e.fault("h 2", 0);
        e.sentence(TERMS, "(As written here, without points;");
        e.fault("hall 4.", 6);
        e.fault("hall. 4", 4);
        e.fault("Hall 4", 0);
        e.fault("HALL 4", 0);
        e.fault("haLL 4", 0);
        e.fault("hall 4; Hall 4", 8);
    }

    private static void halls(Edges e) {
        e.sentence(TERMS, "hall: J JOINTS, else all as at first;");
        e.run("told hall 3;scale 20 5;hero 9;sort 1 1", "deed 0 0", "year", "told hall 7", "count 0..9 = 7 0 0 0 40 8 0 0 0 0");
        e.run("told scale 1 1;hero 1;sort 1 1;hall 2;child 5", "count 0..5 = 2 1 0 0 40 8", "person 0 0..1 = 3 5");
        e.run("told " + SIX + ";hall 2;" + SIX, "count 1 = 6");
        e.run("told " + SIX_SORTS + ";hall 9;sort 2 3", "count 2 = 1", "sort 0 0..1 = 2 3");
    }

    private static void seventh(Edges e) {
        e.sentence(TERMS, "hero ..: one of PEOPLE more, of FAME F, a seventh cannot stand there (at its word);");
        for (String word : new String[] {"hero", "boaster", "modest", "child"}) {
            e.fault(Edges.clauses(6, word + " 1"), NONE);
            e.fault(SIX + ";" + word + " 1", 42);
            e.fault(SIX + ";  " + word + " 100", 44);
            e.fault(SIX + ";" + word, 42);
        }
        e.run("told hero 0;boaster 11;modest 22;child 33;hero 44;hero 99", "person 0..5 1 = 0 11 22 33 44 99");
        e.fault(SIX + ";sort 1 1", NONE);
        e.fault(SIX + ";hall 2;hero 1", NONE);
        e.fault(SIX + ";poet 1", 42);
        e.run("told " + SIX, "text hero 1", "fault = 0", "hall = NOT", "count 1 = 6", "erase = 6", "text scale 1 1;child 1",
            "fault = 10", "erase = 17", "text hall 2;child 1", "fault = NONE", "hall = 2", "count 1 = 1");
        e.run("told " + Edges.clauses(5, "hero 1"), "text hero 1;hero 1", "fault = 7", "hall = NOT", "count 1 = 5", "erase = 13",
            "told hero 1", "count 1 = 6");
        e.sentence(TERMS, "sort: one more of GAIN G, FEAR R, a seventh cannot;");
        e.fault(SIX_SORTS + ";sort", 54);
        e.fault(SIX_SORTS + "; sort 21 1", 55);
        e.fault(SIX_SORTS + ";hero 1", NONE);
        e.fault(SIX_SORTS + ";hall 2;sort 1 1", NONE);
        e.run("told " + SIX_SORTS, "text sort 1 1", "fault = 0", "hall = NOT", "count 2 = 6", "erase = 8",
            "text hall 2;sort 1 1", "hall = 2", "count 2 = 1");
        e.run("told " + Edges.clauses(5, "sort 1 1"), "text sort 1 1;sort 1 1", "fault = 9", "erase = 17", "told sort 1 1",
            "count 2 = 6");
    }

    private static void signs(Edges e) {
        e.sentence(TERMS, "small letters a .. z, numbers of 1 or 2 digits, blanks between;");
        e.run("told hero 0;hero 00;hero 7;hero 07;hero 70", "person 0..4 1 = 0 0 7 7 70");
        e.fault("hero 007", 5);
        e.fault("hero 000", 5);
        e.fault("hero  7", NONE);
        e.fault("  hero 7", NONE);
        e.fault("hero 7  ", NONE);
        e.fault("hero7", NONE);
        e.fault("scale 7 7", NONE);
        e.fault("scale 77", 8);
        e.fault("scale7  7", NONE);
        e.fault("hero 7 ; hero 8", NONE);
        e.fault("hero 7;hero 8", NONE);
        e.fault("he ro 7", 0);
        e.fault("hero 1 2", 7);
        e.fault("her` 7", 0);
        for (char letter = 'a'; letter <= 'z'; letter++) {
            e.fault("hero" + letter + " 7", 0);
            e.fault("hero 7" + letter, 6);
        }
        for (int sign : new int[] {0, 9, 10, 13, 31, 33, 47, 58, 64, 65, 90, 91, 96, 123, 127, 128, 160, 255}) {
            e.run("text hero", "write " + sign + " = 5", "text 7", "fault = 4", "hall = NOT");
            e.run("text hero 7", "write " + sign + " = 7", "fault = 6", "hall = NOT");
            e.run("write " + sign + " = 1", "text hero 7", "fault = 0", "hall = NOT");
        }
    }

    private static void earlierTexts(Edges e) {
        e.sentence(TERMS, "what earlier texts told stays.)");
        e.run("told hall 3;scale 20 5;hero 9;sort 1 2", "told child 4", "count 0..5 = 3 2 1 0 20 5", "person 0 0..1 = 0 9",
            "person 1 0..1 = 3 4", "sort 0 0..1 = 1 2");
        e.run("told hall 3;scale 20 5;hero 9;sort 1 2", "told sort 3 4", "told scale 9 9", "count 0..5 = 3 1 2 0 9 9",
            "sort 0 0..1 = 1 2", "sort 1 0..1 = 3 4");
        e.run("told hero 9", "text child", "hall = NOT", "erase = 5", "count 1 = 1", "person 0 1 = 9");
    }

    private static void firstFault(Edges e) {
        e.sentence(TERMS, "A FAULT is at the first TOKEN (a row of small letters, a row of digits, any other letter) that"
            + " cannot stand there");
        e.fault("poet 100;poet", 0);
        e.fault("hall 1;poet", 5);
        e.fault("hall 2;poet 1;poet", 7);
        e.fault("hall 2;hero 100;poet", 12);
        e.fault("hallx 2", 0);
        e.fault("xhall 2", 0);
        e.fault("hall 2x", 6);
        e.fault("hall x2", 5);
        e.fault("hall2", NONE);
        e.fault("hall1", 4);
        e.fault("hero7hero", 5);
        e.fault("hero hero", 5);
        e.fault("1 hero", 0);
        e.fault("12hero", 0);
        e.fault("hero ;;", 5);
        e.fault("hero ,,", 5);
        e.fault("hero 1,,", 6);
        e.fault("hero -1", 5);
        e.fault("hero +1", 5);
        e.fault("hero 1.5", 6);
        e.fault("HERO", 0);
    }

    private static void numbers(Edges e) {
        e.sentence(TERMS, "(a number out of its bounds, of more digits, also),");
        e.fault("hall 01", 5);
        e.fault("hall 02", NONE);
        e.fault("hall 002", 5);
        e.fault("hall 99", 5);
        e.fault("hero 1234", 5);
        e.fault("hero 4294967297", 5);
        e.fault("hero 18446744073709551617", 5);
        e.fault("hero " + "0".repeat(155), 5);
        e.fault("scale 001 1", 6);
        e.fault("scale 1 001", 8);
        e.fault("scale 1 100", 8);
        e.fault("scale 1 00", 8);
        e.fault("scale 1 01", NONE);
        e.fault("sort 020 1", 5);
        e.fault("sort 1 020", 7);
        e.fault("sort 99 1", 5);
        e.fault("sort 1 99", 7);
    }

    private static void endTooSoon(Edges e) {
        e.sentence(TERMS, "or at the end, if it comes too soon.");
        e.fault("", 0);
        e.fault("  ", 2);
        e.fault("hero", 4);
        e.fault("hero  ", 6);
        e.fault("scale", 5);
        e.fault("scale 1", 7);
        e.fault("scale 1 ", 8);
        e.fault("sort 1", 6);
        e.fault("hero 1;", 7);
        e.fault("hero 1; ", 8);
        e.fault("hero 1;sort", 11);
        e.run("text " + " ".repeat(156) + "hero", "fault = 160", "hall = NOT");
        e.run("160 x write 32", "fault = 160", "hall = NOT");
    }

    private static void order(Edges e) {
        e.sentence(TERMS, "CLAUSES are done in their order.");
        e.run("told scale 9 9;scale 8 7", "count 4..5 = 8 7");
        e.run("told hall 3;hall 4", "count 0 = 4");
        e.run("told hero 1;hall 2", "count 1 = 0");
        e.run("told hall 2;hero 1", "count 1 = 1");
        e.run("told scale 9 9;hall 2", "count 4..5 = 40 8");
        e.run("told sort 1 2;hero 5;sort 3 4;child 6", "sort 0..1 0 = 1 3", "person 0..1 1 = 5 6");
    }

    private static void anew(Edges e) {
        String[] before = {"told hall 2;scale 0 1;hero 30;sort 20 1", "2 x deed 0 0", "feast = 1", "year = 1", "deed 0 0 = 36",
            "feast = 1", "seen 5 1 = 1", "keep 0..1 = 1 1", "scale 0 2 = 0", "person 0 1..7 = 50 20 1 36 0 0 2"};
        e.sentence(TERMS, "Behind them it is YEAR 0,");
        e.run(Edges.rows(before, "text child 1", "hall = 1", "count 3 = 0", "year = 1"));
        e.sentence(TERMS, "FAME is as told,");
        e.run(Edges.rows(before, "told child 1", "person 0..1 1 = 30 1"));
        e.run("told hero 99;sort 20 0", "deed 0 0", "year", "told hero 0", "person 0..1 1 = 99 0");
        e.sentence(TERMS, "nobody has GAIN, FEAR, had a JOINT,");
        e.run(Edges.rows(before, "told child 1", "person 0 2..7 = 0 0 10 0 NONE 0", "person 1 2..7 = 0 0 0 0 NONE 0"));
        e.run("told hall 2;hero 0;sort 0 9", "deed 0 0", "count 6 = 1", "told scale 1 1", "count 6 = 0");
        e.sentence(TERMS, "nothing is SEEN,");
        e.run(Edges.rows(before, "told child 1", "count 7 = 0", "scales 0 = 2000", "forget = 0", "seen 5 1 = 1"));
        e.run("6 x seen 1 0", "told hall 2", "seen 1 0 = 1");
        e.sentence(TERMS, "nothing is kept or can be undone.");
        e.run(Edges.rows(before, "count 8 = 7", "told child 1", "count 8 = 0", "undo = NOT", "back 0..1 = NOT NOT"));
        e.run(Edges.rows(before, "text child", "hall = NOT", "count 3 = 1", "count 7..8 = 1 7", "back 0..1 = 1 1"));
    }
}
