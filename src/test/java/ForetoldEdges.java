/** Part 3 of the terms: what is foretold, what was seen, odds. */
final class ForetoldEdges {
    private static final String TERMS = "Terms";

    private ForetoldEdges() {
    }

    static void tell(Edges e) {
        nothingChanges(e);
        gets(e);
        need(e);
        needIsLeast(e);
        deedsMany(e);
        deedsBest(e);
        seen(e);
        scales(e);
        scalesLeast(e);
        tells(e);
        chance(e);
        parts(e);
    }

    private static void nothingChanges(Edges e) {
        e.sentence(TERMS, "FORETOLD (nothing changes).");
        for (String call : new String[] {"gets 0..3", "need 0..3 0", "need 3 2", "deeds 0 0..2 NONE", "deeds 1 0..2 0",
            "scales 0..2", "tells", "chance 0 0 0 5 0", "chance 3 2 1 10 1", "as 1 0", "person 0..3 4", "sort 0..1 0", "fault",
            "count 0..9"}) {
            e.changesNothing(RefusalEdges.BEFORE, call, RefusalEdges.PROBES);
        }
    }

    private static void gets(Edges e) {
        e.sentence(TERMS, "GETS of one: the JOINT that he would have at a FEAST now; none.");
        e.run("told hall 3;scale 20 5;hero 60;hero 27;child 0;hero 60;sort 0 20;sort 0 1", "gets 0..3 = 0 NONE 2 1",
            "person 0..3 6 = NONE NONE NONE NONE", "feast = 13", "person 0..3 6 = 0 NONE 2 1", "deed 0 0 = 20",
            "gets 0..3 = 0 NONE 2 1", "deed 0 1 = 20", "gets 0..3 = NONE NONE 2 0", "person 0..3 6 = 0 NONE 2 1");
        e.run("told hall 2;scale 0 1;hero 0;hero 0;hero 0;child 0", "gets 0..3 = 0 1 NONE NONE");
    }

    private static void need(Edges e) {
        e.sentence(TERMS, "NEED for a JOINT: the least GAIN (0 .. 99) which, added to one's by itself,");
        e.run("told hall 2;scale 99 1;hero 0", "need 0 0..1 = 99 98");
        e.run("told hall 2;scale 99 20;hero 99", "need 0 0..1 = 66 46");
        e.run("told hall 2;scale 75 1;modest 0", "need 0 0 = 99");
        e.run("told hall 2;scale 77 1;modest 0", "need 0 0..1 = NONE NONE");
        e.run("told hall 2;scale 20 10;hero 60", "need 0 0 = 0");
        e.run("told hall 2;scale 20 10;hero 57", "need 0 0 = 1");
        e.run("told hall 2;scale 20 10;hero 0;sort 5 0", "deed 0 0", "need 0 0..1 = 15 5");
        e.run("told hall 2;scale 6 1;boaster 0", "need 0 0 = 1");
        e.run("told hall 2;scale 90 20;hero 0;hero 0;sort 20 0;sort 18 0;sort 1 0", "4 x deed 0 0", "deed 0 1 = 98",
            "need 1 0 = 99", "deed 0 2 = 99", "need 1 0..1 = NONE 70");
        e.sentence(TERMS, "without FEAR,");
        e.run("told hall 2;scale 1 1;hero 0;sort 0 20", "deed 0 0", "need 0 0 = 20");
        e.run("told hall 2;scale 0 1;hero 0;sort 0 20;sort 0 19;sort 0 1", "4 x deed 0 0", "deed 0 1", "need 0 0 = 99",
            "deed 0 2", "need 0 0..1 = NONE NONE");
    }

    private static void needIsLeast(Edges e) {
        e.sentence(TERMS, "would have him get that JOINT, or a lesser one, at a FEAST now; none.");
        e.run("told hall 3;scale 20 5;hero 60", "need 0 0..2 = 0 0 0");
        e.run("told hall 3;scale 20 5;hero 45", "need 0 0..2 = 5 0 0");
        e.run("told hall 3;child 0", "need 0 0..2 = NONE NONE 0");
        e.run("told hall 2;child 0;child 0", "need 0 0..1 = NONE 0", "need 1 0..1 = 0 0");
        e.run("told hall 2;scale 0 1;hero 9;hero 9;child 0;sort 0 11", "need 2 0..1 = NONE 4", "deed 2 0", "need 2 1 = NONE");
        e.run("told hall 2;scale 20 20;hero 9;hero 6;hero 3", "need 0..2 0 = 17 18 19", "need 0..2 1 = 0 2 3");
    }

    private static void deedsMany(Edges e) {
        e.sentence(TERMS, "DEEDS for a JOINT: one to three deeds of his,");
        e.run("told hall 2;scale 0 1;hero 0;sort 0 20", "gets 0 = 0", "deeds 0 0 NONE = NONE");
        e.run("told hall 2;scale 0 1;hero 0", "gets 0 = 0", "deeds 0 0 -1..2 = NONE NONE NONE NONE");
        e.run("told hall 2;scale 0 1;hero 0;sort 0 0", "deeds 0 0 -1..2 = 1 0 NONE NONE");
        e.run("told hall 2;scale 20 1;hero 0;sort 20 0", "deeds 0 0 -1..2 = 1 0 NONE NONE");
        e.run("told hall 2;scale 40 1;hero 0;sort 20 0", "deeds 0 0 -1..2 = 2 0 0 NONE");
        e.run("told hall 2;scale 60 1;hero 0;sort 20 0", "deeds 0 0 -1..2 = 3 0 0 0");
        e.run("told hall 2;scale 61 1;hero 0;sort 20 0", "deeds 0 0 -1..2 = NONE NONE NONE NONE", "deeds 0 1 -1..2 = 3 0 0 0");
        e.run("told hall 2;scale 20 1;hero 0;hero 0;sort 20 0", "deed 0 0", "deeds 1 0 -1..2 = 2 0 0 NONE");
        e.sentence(TERMS, "of SORTS (each as often as one likes; told as SORTS that do not fall),");
        e.run("told hall 2;scale 11 1;hero 0;sort 10 5;sort 1 0", "deeds 0 0 -1..2 = 2 0 1 NONE");
        e.run("told hall 2;scale 11 1;hero 0;sort 1 0;sort 10 5", "deeds 0 0 -1..2 = 2 0 1 NONE");
        e.run("told hall 2;scale 21 1;hero 0;sort 1 0;sort 10 5", "deeds 0 0 -1..2 = 3 0 1 1");
        e.run("told hall 2;scale 60 1;hero 0;sort 1 0;sort 1 0;sort 1 0;sort 1 0;sort 1 0;sort 20 9", "deeds 0 0 -1..2 = 3 5 5 5");
        e.sentence(TERMS, "by which he gets just that JOINT at a FEAST now:");
        e.run("told hall 2;scale 20 10;hero 0;sort 20 0;sort 10 1", "deeds 0 0 -1..1 = 1 0 NONE", "deeds 0 1 -1..1 = 1 1 NONE");
        e.run("told hall 2;scale 20 1;hero 0;sort 20 0", "deeds 0 1 NONE = NONE");
        e.run("told hall 2;scale 10 5;hero 0;sort 10 11;sort 1 0", "deeds 0 0 -1..2 = 2 0 1 NONE");
        e.run("told hall 3;child 0;sort 1 0", "deeds 0 0..2 NONE = NONE NONE 1");
    }

    private static void deedsBest(Edges e) {
        e.sentence(TERMS, "those with least FEAR together,");
        e.run("told hall 2;scale 20 10;hero 0;sort 10 1;sort 20 5", "deeds 0 0 -1..2 = 2 0 0 NONE");
        e.run("told hall 2;scale 20 10;hero 0;sort 20 4;sort 7 1", "deeds 0 0 -1..2 = 3 1 1 1");
        e.run("told hall 2;scale 20 10;hero 0;sort 20 1;sort 20 0", "deeds 0 0 -1..1 = 1 1 NONE");
        e.run("told hall 2;scale 20 10;hero 0;sort 10 2;sort 20 3", "deeds 0 0 -1..2 = 1 1 NONE NONE");
        e.sentence(TERMS, "of several with fewest deeds,");
        e.run("told hall 2;scale 20 10;hero 0;sort 10 1;sort 20 2", "deeds 0 0 -1..2 = 1 1 NONE NONE");
        e.run("told hall 2;scale 20 10;hero 0;sort 7 2;sort 10 3", "deeds 0 0 -1..2 = 2 1 1 NONE");
        e.run("told hall 2;scale 20 10;hero 0;sort 7 1;sort 20 3", "deeds 0 0 -1..2 = 1 1 NONE NONE");
        e.sentence(TERMS, "of several the first:");
        e.run("told hall 2;scale 20 10;hero 0;sort 19 0;sort 20 2;sort 20 2", "deeds 0 0 -1..2 = 2 0 0 NONE");
        e.run("told hall 2;scale 20 10;hero 0;sort 0 0;sort 20 2;sort 20 2", "deeds 0 0 -1..2 = 1 1 NONE NONE");
        e.run("told hall 2;scale 20 5;hero 0;sort 9 1;sort 10 1;sort 11 1", "deeds 0 0 -1..2 = 2 0 2 NONE");
        e.run("told hall 2;scale 30 5;hero 0;sort 9 1;sort 10 1;sort 11 1", "deeds 0 0 -1..2 = 3 0 1 2");
        e.sentence(TERMS, "how many; the k-th; none.");
        e.run("told hall 2;scale 30 5;hero 0;sort 9 1;sort 12 1", "deeds 0 0 -2..3 = OUTSIDE 3 0 0 1 OUTSIDE",
            "deeds 0 1 -2..3 = OUTSIDE 3 0 0 0 OUTSIDE");
        e.run("told hall 2;scale 99 1;hero 0;sort 9 1", "deeds 0 0 -1..2 = NONE NONE NONE NONE");
    }

    private static void seen(Edges e) {
        e.sentence(TERMS, "SEEN, 6 at most: one with a SCORE s (0 .. 99), not AFRAID, not a CHILD,");
        e.run("6 x seen 50 1 = 1 2 3 4 5 6", "2 x seen 50 1 = FULL", "count 7 = 6");
        e.run("seen -1 0 = OUTSIDE", "seen 100 0 = OUTSIDE", "count 7 = 0", "seen 0 0 = 1", "seen 99 0 = 2");
        e.sentence(TERMS, "had a JOINT (NONE: none), all of them being there.");
        e.run("seen 0 -2..5 = UNKNOWN 1 2 3 4 5 6 UNKNOWN");
        e.run("told hall 2", "seen 0 -2..2 = UNKNOWN 1 2 3 UNKNOWN");
        e.run("told hall 9", "seen 0 8..9 = 1 UNKNOWN");
        e.run("seen 40 0 = 1", "scales 0 = 820", "seen 40 0 = 2", "scales 0 = 820");
    }

    private static void scales(Edges e) {
        e.sentence(TERMS, "SCALES by which all that is SEEN would be so (BASE 0 .. 99, STEP 1 .. 20;");
        e.run("scales 0..2 = 2000 0 1");
        e.run("seen 0 0", "scales 0..2 = 20 0 1");
        e.run("told hall 2", "seen 98 1", "seen 79 1", "seen 78 NONE", "scales 0..2 = 1 99 20");
        e.run("told hall 2", "seen 98 1", "seen 97 NONE", "scales 0..2 = 1 99 1");
        e.run("told hall 2", "seen 98 1", "seen 78 1", "scales 0..2 = 0 NONE NONE");
        e.run("told hall 2", "seen 99 0", "scales 0 = 2000");
        e.run("told hall 2", "seen 99 1", "scales 0..2 = 0 NONE NONE");
        e.run("seen 40 0", "seen 39 1", "scales 0 = 20", "seen 32 1", "seen 31 2", "scales 0..2 = 1 40 8", "seen 8 4",
            "seen 7 NONE", "scales 0..2 = 1 40 8");
        e.run("seen 40 0", "seen 39 1", "seen 32 1", "seen 31 2", "seen 8 4", "seen 8 NONE", "scales 0..2 = 0 NONE NONE");
        e.sentence(TERMS, "JOINTS as many as there are):");
        e.run("seen 0 NONE", "scales 0 = 1140");
        e.run("told hall 2", "seen 0 NONE", "scales 0 = 1770");
        e.run("told hall 9", "seen 0 NONE", "scales 0 = 564");
    }

    private static void scalesLeast(Edges e) {
        e.sentence(TERMS, "how many; the least (by BASE, then STEP): its BASE; its STEP; none.");
        e.run("seen 50 1", "scales 0..2 = 210 51 1");
        e.run("told hall 2", "seen 50 1", "seen 45 1", "scales 0..2 = 120 51 6");
        e.run("seen 50 0", "seen 50 1", "scales 0..2 = 0 NONE NONE");
        e.run("seen 50 0", "seen 51 1", "scales 0..2 = 0 NONE NONE");
    }

    private static void tells(Edges e) {
        e.sentence(TERMS, "TELLS: the SCORE (0 .. 99) by which, of these SCALES, the most that would give the same JOINT are"
            + " fewest;");
        e.run("told hall 2", "seen 90 1", "seen 89 NONE", "seen 97 1", "scales 0 = 2", "tells = 98");
        e.run("told hall 2", "seen 1 1", "seen 2 0", "scales 0 = 20", "tells = 0");
        e.run("seen 40 0", "seen 39 1", "tells = 8");
        e.run("told hall 2", "seen 50 0", "seen 49 1", "tells = 39");
        e.run("told hall 9", "seen 41 1", "seen 40 1", "seen 15 4", "scales 0 = 24", "tells = 0");
        e.run("seen 8 1", "seen 5 1", "scales 0 = 153", "tells = 0");
        e.run("told hall 9", "seen 0 8", "tells = 51");
        e.run("told hall 9", "seen 70 3", "seen 60 4", "seen 50 6", "scales 0 = 8", "tells = 30");
        e.sentence(TERMS, "of several the least; none.");
        e.run("told hall 2", "seen 50 0", "seen 49 1", "seen 46 NONE", "scales 0 = 3", "tells = 47");
        e.run("told hall 2", "seen 98 1", "seen 97 NONE", "scales 0 = 1", "tells = 0");
        e.run("seen 50 0", "seen 50 1", "tells = NONE");
    }

    private static void chance(Edges e) {
        e.sentence(TERMS, "CHANCE: the odds that one gets a JOINT at a FEAST, if each other one does a deed of a SORT first by"
            + " q of ten (0 .. 10), by himself.");
        String three = "told hall 2;scale 0 1;hero 3;hero 0;hero 0;sort 2 0";
        e.run(three, "chance 0 0 0 5 0..1 = 1 4", "chance 0 1 0 5 0..1 = 1 2", "chance 0 0 0 1 0..1 = 81 100",
            "chance 0 1 0 1 0..1 = 9 50", "chance 1 1 0 5 0..1 = 1 2", "chance 1 0 0 5 0..1 = 0 1");
        e.run(three, "chance 0 0 0 -1..11 0 = OUTSIDE 1 81 16 49 9 1 4 9 1 1 0 OUTSIDE",
            "chance 0 0 0 -1..11 1 = OUTSIDE 1 100 25 100 25 4 25 100 25 100 1 OUTSIDE");
        e.run("told hall 2;scale 10 5;hero 30;hero 0;sort 0 20", "chance 0 0 0 10 0..1 = 1 1");
        e.run("told hall 2;scale 0 1;hero 0;sort 0 20", "chance 0 0 0 0..10 0 = 1", "chance 0 0 0 0..10 1 = 1",
            "chance 0 1 0 0..10 0 = 0", "chance 0 1 0 0..10 1 = 1");
        e.run("told hall 2;scale 0 1;hero 3;hero 0;hero 0;sort 0 1", "chance 2 1 0 3 0..1 = 3 10");
        e.run("told hall 2;scale 0 1;hero 0;hero 3;sort 2 0", "chance 1 0 0 4 0..1 = 3 5", "chance 1 1 0 4 0..1 = 2 5");
        e.run("told hall 2;scale 0 1;" + Edges.clauses(5, "hero 6") + ";hero 9;sort 2 0", "chance 5 0 0 1 0..1 = 59049 100000");
        e.run("told hall 2;scale 0 1;hero 99;child 0;sort 20 0", "chance 1 1 0 10 0..1 = 1 1", "chance 1 0 0 10 0..1 = 0 1");
    }

    private static void parts(Edges e) {
        e.sentence(TERMS, "Parts are told in lowest terms: above (part 0), below (1).");
        String six = "told hall 2;scale 0 1;hero 9;hero 6;hero 6;hero 6;hero 6;hero 6;sort 2 0";
        e.run(six, "chance 0 0 0 1 -1..2 = OUTSIDE 59049 100000 OUTSIDE", "chance 0 0 0 5 0..1 = 1 32",
            "chance 0 0 0 8 0..1 = 1 3125", "chance 0 0 0 9 0..1 = 1 100000", "chance 0 0 0 2 0..1 = 1024 3125");
        e.run(six, "chance 0 0 0 0 0..1 = 1 1", "chance 0 0 0 10 0..1 = 0 1");
    }
}
