/** Part 2 of the terms: deeds, scores, who is afraid, feasts, years, kinds. */
final class FeastEdges {
    private static final String TERMS = "Terms";

    private FeastEdges() {
    }

    static void tell(Edges e) {
        deeds(e);
        scores(e);
        afraid(e);
        order(e);
        first(e);
        children(e);
        afraidHaveNone(e);
        notThereAnyMore(e);
        years(e);
        kinds(e);
    }

    private static void deeds(Edges e) {
        e.sentence(TERMS, "A deed of a SORT adds its GAIN, its FEAR to one's (999 at most each).");
        e.run("told hero 0;sort 20 19;sort 19 20", "49 x deed 0 0", "person 0 2..3 = 980 931", "deed 0 1 = 999",
            "person 0 2..3 = 999 951", "2 x deed 0 1 = 999", "person 0 2..3 = 999 991", "deed 0 1 = 999",
            "person 0 2..3 = 999 999", "deed 0 0 = 999", "person 0 2..3 = 999 999");
        e.run("told hero 0;sort 20 0;sort 18 0;sort 1 0", "49 x deed 0 0", "deed 0 1 = 998", "deed 0 2 = 999", "deed 0 2 = 999");
        e.run("told hero 0;sort 20 0;sort 0 20", "50 x deed 0 0", "person 0 2..3 = 999 0", "50 x deed 0 1",
            "person 0 2..3 = 999 999", "person 0 5 = 0");
        e.run("told hero 3;sort 0 0", "deed 0 0 = 1", "person 0 2..3 = 0 0", "count 8 = 1");
        e.run("told hero 0;hero 0;sort 5 6", "deed 1 0 = 5", "person 0 2..3 = 0 0", "person 1 2..3 = 5 6");
    }

    private static void scores(Edges e) {
        e.sentence(TERMS, "SCORE: of a HERO his GAIN and a third of FAME (cut);");
        e.run("told hero 0;hero 2;hero 3;hero 5;hero 98;hero 99;sort 1 0", "person 0..5 4 = 0 0 1 1 32 33", "deed 5 0 = 34",
            "deed 1 0 = 1");
        e.sentence(TERMS, "of a BOASTER as of a HERO, and 5 more, if he has any GAIN;");
        e.run("told boaster 0;boaster 9;sort 1 0;sort 0 1", "person 0..1 4 = 0 3", "deed 1 1 = 3", "deed 1 0 = 9",
            "deed 1 0 = 10", "deed 0 0 = 6", "year = 1", "person 0..1 4 = 0 3");
        e.run("told boaster 0;sort 20 0", "50 x deed 0 0", "person 0 4 = 1004");
        e.sentence(TERMS, "of a MODEST one as of a HERO, a quarter of that (cut) less;");
        e.run("told modest 0;modest 9;modest 12;modest 21;modest 24;sort 1 0", "person 0..4 4 = 0 3 3 6 6", "deed 1 0 = 3",
            "deed 1 0 = 4", "deed 0 0 = 1");
        e.sentence(TERMS, "of a CHILD his GAIN, 10 at most.");
        e.run("told child 99;sort 9 0;sort 1 0;sort 20 0", "person 0 4 = 0", "deed 0 0 = 9", "deed 0 1 = 10", "deed 0 1 = 10",
            "person 0 2 = 11", "deed 0 2 = 10");
    }

    private static void afraid(Edges e) {
        e.sentence(TERMS, "One is AFRAID, if his FEAR is more than his SCORE.");
        e.run("told hero 9;sort 0 3;sort 0 1;sort 1 0", "person 0 5 = 0", "deed 0 0 = 3", "person 0 5 = 0", "count 6 = 0",
            "deed 0 1 = 3", "person 0 5 = 1", "count 6 = 1", "deed 0 2 = 4", "person 0 5 = 0", "count 6 = 0");
        e.run("told hero 0;child 0;sort 0 1;sort 1 1", "person 0..1 5 = 0 0", "deed 0 0", "deed 1 1", "person 0..1 5 = 1 0",
            "count 6 = 1");
        e.run("told child 0;sort 20 10;sort 20 1", "deed 0 0 = 10", "person 0 5 = 0", "deed 0 1 = 10", "person 0 5 = 1");
        e.run("told modest 12;sort 0 3;sort 0 1", "deed 0 0 = 3", "person 0 5 = 0", "deed 0 1 = 3", "person 0 5 = 1");
        e.run("told boaster 0;sort 1 6;sort 0 1", "deed 0 0 = 6", "person 0 5 = 0", "deed 0 1 = 6", "person 0 5 = 1");
    }

    private static void order(Edges e) {
        e.sentence(TERMS, "A FEAST: of those who are not AFRAID, by SCORE, the greatest first (of like ones by numbers),");
        e.run("told hall 3;scale 0 1;hero 3;hero 9;hero 6", "feast = 7", "person 0..2 6 = 2 0 1");
        e.run("told hall 2;scale 0 1;hero 3;hero 5;hero 4", "feast = 3", "person 0..2 6 = 0 1 NONE");
        e.run("told hall 2;scale 0 1;modest 5;boaster 3;hero 4", "feast = 3", "person 0..2 6 = 0 1 NONE");
        e.run("told hall 2;scale 0 1;child 0;hero 0;hero 0", "feast = 3", "person 0..2 6 = 1 0 NONE");
        e.run("told hall 2;scale 0 1;hero 0;child 0;hero 0", "feast = 3", "person 0..2 6 = 0 1 NONE");
        e.run("told hall 2;scale 0 1;hero 0;hero 0;child 0", "feast = 3", "person 0..2 6 = 0 1 NONE");
        e.run("told hall 2;scale 0 1;hero 9;hero 6;hero 3;sort 0 4", "deed 0 0 = 3", "feast = 6", "person 0..2 6 = NONE 0 1");
        e.run("told hall 9;scale 0 1;" + Edges.clauses(5, "hero 0") + ";hero 99", "feast = 63", "person 0..5 6 = 1 2 3 4 5 0");
    }

    private static void first(Edges e) {
        e.sentence(TERMS, "each has the first JOINT, of those that are there yet, that is for his SCORE;");
        e.run("told hall 3;scale 20 5;hero 60;hero 60;hero 57;hero 45", "feast = 7", "person 0..3 6 = 0 1 2 NONE");
        e.run("told hall 3;scale 20 5;hero 45", "feast = 1", "person 0 6 = 1");
        e.run("told hall 3;scale 20 5;hero 30;hero 60", "feast = 3", "person 0..1 6 = 2 0");
        e.sentence(TERMS, "none, if none of them is (he waits with an empty fork).");
        e.run("told hall 2;scale 9 1;hero 24;hero 21", "feast = 1", "person 0..1 6 = 1 NONE", "person 0..1 7 = 1 0");
        e.run("told hall 2;scale 9 1;hero 21", "feast = 0", "person 0 6..7 = NONE 0", "gets 0 = NONE");
        e.run("told hall 2;scale 0 1;hero 9;hero 9;hero 9", "feast = 3", "person 2 6..7 = NONE 0");
    }

    private static void children(Edges e) {
        e.sentence(TERMS, "A CHILD has, whatever his SCORE, the last one that is there yet;");
        e.run("told hall 3;scale 99 1;child 0", "feast = 1", "person 0 6 = 2");
        e.run("told hall 2;scale 99 1;child 0;child 99", "feast = 3", "person 0..1 6 = 1 0");
        e.run("told hall 2;scale 0 1;hero 3;hero 3;child 0;sort 2 0", "deed 2 0 = 2", "feast = 5", "person 0..2 6 = 0 NONE 1");
        e.run("told hall 9;scale 0 1;child 0;child 0;child 0;child 0;child 0;child 0;sort 20 0", "deed 5 0 = 10", "feast = 63",
            "person 0..5 6 = 7 6 5 4 3 8");
        e.sentence(TERMS, "none, if none is.");
        e.run("told hall 2;scale 0 1;hero 9;hero 9;child 0", "feast = 3", "person 2 6..7 = NONE 0");
        e.run("told hall 2;scale 99 1;child 0;child 0;child 0", "feast = 3", "person 0..2 6 = 1 0 NONE");
    }

    private static void afraidHaveNone(Edges e) {
        e.sentence(TERMS, "Who is AFRAID has none.");
        e.run("told hall 2;scale 0 1;hero 3;child 0;sort 0 2;sort 0 1", "deed 0 0 = 1", "deed 1 1 = 0", "feast = 0",
            "person 0..1 6 = NONE NONE", "person 0..1 7 = 0 0");
        e.run("told hall 2;scale 0 1;hero 3;child 0;sort 0 1;sort 0 0", "deed 0 0 = 1", "deed 1 1 = 0", "feast = 3");
        e.run("told hall 2;scale 0 1;hero 3;sort 0 2", "feast = 1", "person 0 6 = 0", "deed 0 0 = 1", "feast = 0",
            "person 0 6..7 = NONE 1");
    }

    private static void notThereAnyMore(Edges e) {
        e.sentence(TERMS, "(A JOINT that somebody has is not there any more.)");
        e.run("told hall 2;scale 2 1;child 0;hero 3;sort 5 0", "feast = 3", "person 0..1 6 = 0 1", "deed 0 0 = 5", "feast = 1",
            "person 0..1 6 = 1 NONE");
        e.run("told hall 2;scale 0 20;hero 0;hero 0;hero 0", "feast = 3", "feast = 3", "person 0..2 7 = 2 2 0");
    }

    private static void years(Edges e) {
        String all = "told hero 0;boaster 0;modest 0;child 0;sort 1 1;sort 2 1;sort 3 1;sort 4 1;sort 7 1;sort 8 1";
        e.sentence(TERMS, "A YEAR: FAME is what it was and half of GAIN (cut; of a BOASTER a quarter, cut) together,");
        e.run(all, "deed 0..3 0", "year = 1", "person 0..3 1 = 0 0 0 0");
        e.run(all, "deed 0..3 1", "year = 1", "person 0..3 1 = 1 0 1 1");
        e.run(all, "deed 0..3 2", "year = 1", "person 0..3 1 = 1 0 1 1");
        e.run(all, "deed 0..3 3", "year = 1", "person 0..3 1 = 2 1 2 2", "deed 0..3 3", "year = 2", "person 0..3 1 = 4 2 4 4");
        e.run(all, "deed 0..3 4", "year = 1", "person 0..3 1 = 3 1 3 3");
        e.run(all, "deed 0..3 5", "year = 1", "person 0..3 1 = 4 2 4 4", "year = 2", "person 0..3 1 = 4 2 4 4");
        e.run("told child 5;sort 20 0", "3 x deed 0 0 = 10", "year = 1", "person 0 1 = 35");
        e.sentence(TERMS, "99 at most;");
        e.run("told hero 96;hero 97;hero 98;hero 99;boaster 98;boaster 99;sort 4 0", "deed 0..5 0", "year = 1",
            "person 0..5 1 = 98 99 99 99 99 99");
        e.run("told boaster 98;modest 98;child 98;hero 0;sort 20 0", "50 x deed 3 0", "deed 0..2 0", "year = 1",
            "person 0..3 1 = 99 99 99 99");
        e.sentence(TERMS, "GAIN, FEAR are 0;");
        e.run("told hall 2;scale 0 1;hero 3;child 3;sort 5 3", "deed 0..1 0", "feast = 3", "year = 1", "person 0..1 2 = 0 0",
            "person 0..1 3 = 0 0", "person 0..1 6 = 0 1", "person 0..1 7 = 1 1");
        e.run("told hero 0;sort 0 1", "deed 0 0", "count 6 = 1", "year = 1", "count 6 = 0");
        e.sentence(TERMS, "it is the next YEAR.");
        e.run("count 3 = 0", "3 x year = 1 2 3", "count 3 = 3");
    }

    private static void kinds(Edges e) {
        String all = "told hero 0;boaster 0;modest 0;child 0;sort 20 0";
        e.sentence(TERMS, "KINDS of PEOPLE are over one another: PERSON (0); HERO (1) under it;");
        e.run(all, "deed 0..3 0", "as 0..3 0 = 10 5 10 10", "as 0 0..5 = 10 10 NOT NOT NOT OUTSIDE");
        e.sentence(TERMS, "BOASTER (2) is HERO;");
        e.run(all, "deed 0..3 0", "as 1 0..4 = 5 5 5 NOT NOT");
        e.sentence(TERMS, "MODEST (3) is HERO;");
        e.run(all, "deed 0..3 0", "as 2 0..4 = 10 10 NOT 10 NOT");
        e.sentence(TERMS, "CHILD (4) is a PERSON.");
        e.run(all, "deed 0..3 0", "as 3 0..4 = 10 NOT NOT NOT 10");
    }
}
