/** The promises, call by call. */
final class CallEdges {
    private static final String FOUR = "told hall 3;scale 20 5;hero 60;boaster 30;modest 60;child 9;sort 9 2;sort 0 20";

    private CallEdges() {
    }

    static void tell(Edges e) {
        aNewObject(e);
        write(e);
        erase(e);
        fault(e);
        hall(e);
        person(e);
        sort(e);
        as(e);
        deed(e);
        feast(e);
        year(e);
        scale(e);
        undo(e);
        undoRing(e);
        keep(e);
        back(e);
        gets(e);
        need(e);
        deeds(e);
        seen(e);
        forget(e);
        scales(e);
        tells(e);
        chance(e);
        count(e);
    }

    private static void aNewObject(Edges e) {
        e.sentence("Promise 1", "Five joints, nobody.");
        e.run("count 0..9 = 5 0 0 0 40 8 0 0 0 0");
        e.run("person 0 0 = UNKNOWN", "sort 0 0 = UNKNOWN", "feast = NOT", "undo = NOT", "back 0..1 = NOT NOT", "erase = 0",
            "forget = 0", "scales 0 = 2000", "fault = 0", "hall = NOT");
    }

    private static void write(Edges e) {
        e.sentence("Promise 2", "A letter (its number, 0 .. 255) more of THE TEXT: how many it has.");
        e.run("write 0 = 1", "write 255 = 2", "write 32 = 3", "count 9 = 3");
        e.run("159 x write 97", "write 255 = 160", "count 9 = 160");
        e.sentence("Promise 2", "OUTSIDE; FULL.");
        e.run("write -1 = OUTSIDE", "write 256 = OUTSIDE", "write MIN = OUTSIDE", "write MAX = OUTSIDE", "count 9 = 0");
        e.run("160 x write 97", "2 x write 97 = FULL", "write 0 = FULL", "count 9 = 160", "write 256 = OUTSIDE");
    }

    private static void erase(Edges e) {
        e.sentence("Promise 3", "THE TEXT is empty: how many letters it had.");
        e.run("erase = 0", "write 97 = 1", "erase = 1", "count 9 = 0", "erase = 0");
        e.run("160 x write 97", "write 97 = FULL", "erase = 160", "write 97 = 1");
        e.run("text hero 55", "erase = 7", "text child 4", "hall = 1", "person 0 0..1 = 3 4");
        e.run("text hero 9", "hall = 1", "erase = 0", "count 1 = 1");
    }

    private static void fault(Edges e) {
        e.sentence("Promise 4", "The place of the FAULT (the letter with which the TOKEN begins, or the length); NONE.");
        e.fault("poet", 0);
        e.fault("   poet", 3);
        e.fault("hero    100", 8);
        e.fault("hero 1   x", 9);
        e.fault("", 0);
        e.fault("hero", 4);
        e.fault("hero 1;   ", 10);
        e.fault("hero 1", -1);
        e.run("159 x write 32", "write 88 = 160", "fault = 159");
        e.run("160 x write 32", "fault = 160");
        e.run("160 x write 97", "fault = 0");
    }

    private static void hall(Edges e) {
        e.sentence("Promise 5", "THE TEXT's CLAUSES are done, and it is empty then: how many there were.");
        e.run("text hero 1", "hall = 1", "count 9 = 0", "count 1 = 1");
        e.run("text " + Edges.clauses(14, "scale 9 9"), "hall = 14", "count 9 = 0", "count 4..5 = 9 9");
        e.run("text hero 1;hero 2", "hall = 2", "hall = NOT", "count 1 = 2");
        e.sentence("Promise 5", "NOT: it has a FAULT.");
        e.run("hall = NOT");
        e.run("text hero 1;hero", "hall = NOT", "count 1 = 0", "count 9 = 11", "text  3", "hall = 2", "person 0..1 1 = 1 3");
        e.run("told hero 5", "text hall 3;scale 1 1;sort 1 1;child 7;x", "hall = NOT", "count 0..5 = 5 1 0 0 40 8",
            "person 0 0..1 = 0 5");
    }

    private static void person(Edges e) {
        e.sentence("Promise 6", "Of one of PEOPLE: KIND (what 0), FAME (1), GAIN (2), FEAR (3), SCORE (4),");
        e.run(FOUR, "deed 0..3 0", "person 0 0..4 = 0 60 9 2 29", "person 1 0..4 = 1 30 9 2 24", "person 2 0..4 = 2 60 9 2 22",
            "person 3 0..4 = 3 9 9 2 9");
        e.sentence("Promise 6", "1 he is AFRAID, 0 (5),");
        e.run(FOUR, "person 0 5 = 0", "deed 0 1 = 20", "person 0 5 = 0", "deed 0 1 = 20", "person 0 5 = 1", "year",
            "person 0 5 = 0");
        e.sentence("Promise 6", "the JOINT of the latest FEAST (6; NONE),");
        e.run(FOUR, "person 0..3 6 = NONE NONE NONE NONE", "feast = 7", "person 0..3 6 = 0 2 1 NONE", "2 x deed 0 1",
            "person 0 6 = 0", "feast = 14", "person 0..3 6 = NONE 2 1 0", "year", "person 0..3 6 = NONE 2 1 0");
        e.sentence("Promise 6", "JOINTS he had in all (7).");
        e.run(FOUR, "person 0..3 7 = 0 0 0 0", "feast = 7", "person 0..3 7 = 1 1 1 0", "feast = 7", "year", "feast = 7",
            "person 0..3 7 = 3 3 3 0", "undo = 3", "person 0..3 7 = 2 2 2 0");
        e.run("told hall 2;scale 0 1;hero 0", "400 x feast = 1", "person 0 7 = 400");
        e.sentence("Promise 6", "UNKNOWN; OUTSIDE.");
        e.run("person 0 0 = UNKNOWN", "person 0 8 = UNKNOWN");
        e.run(FOUR, "person -1 0 = UNKNOWN", "person 4 0 = UNKNOWN", "person 0 -1 = OUTSIDE", "person 3 8 = OUTSIDE",
            "person 4 8 = UNKNOWN");
    }

    private static void sort(Edges e) {
        e.sentence("Promise 7", "Of a SORT: GAIN (what 0), FEAR (1).");
        e.run("told sort 0 20;sort 20 0", "sort 0 0..1 = 0 20", "sort 1 0..1 = 20 0");
        e.sentence("Promise 7", "UNKNOWN; OUTSIDE.");
        e.run("sort 0 0 = UNKNOWN", "sort 0 2 = UNKNOWN");
        e.run("told sort 1 2;sort 3 4", "sort -1 0 = UNKNOWN", "sort 2 0 = UNKNOWN", "sort 1 -1 = OUTSIDE", "sort 1 2 = OUTSIDE",
            "sort 2 2 = UNKNOWN");
    }

    private static void as(Edges e) {
        e.sentence("Promise 8", "One taken as a KIND (0 .. 4, as they are over one another): how much more FAME he would have by a"
            + " YEAR now.");
        e.run("told hero 0;boaster 0;sort 1 0;sort 2 0", "as 0..1 0 = 0 0", "deed 0..1 0", "as 0..1 0 = 0 0", "deed 0..1 1",
            "as 0..1 0 = 1 0", "deed 0..1 0", "as 0..1 0 = 2 1", "as 0..1 1 = 2 1", "person 0..1 1 = 0 0", "year",
            "person 0..1 1 = 2 1", "as 0..1 0 = 0 0");
        e.run("told hero 99;hero 98;hero 90;boaster 97;child 96;sort 20 0", "deed 0..4 0", "as 0..4 0 = 0 1 9 2 3", "as 4 4 = 3",
            "as 3 2 = 2");
        e.sentence("Promise 8", "UNKNOWN; OUTSIDE; NOT: he is none such.");
        e.run(FOUR, "as -1 0 = UNKNOWN", "as 4 0 = UNKNOWN", "as 0 -1 = OUTSIDE", "as 0 5 = OUTSIDE", "as 0 2..4 = NOT",
            "as 1 3..4 = NOT", "as 2 2 = NOT", "as 2 4 = NOT", "as 3 1..3 = NOT");
        e.run("as 0 0 = UNKNOWN", "as 0 5 = UNKNOWN");
    }

    private static void deed(Edges e) {
        e.sentence("Promise 9", "A deed of a SORT: his SCORE then.");
        e.run(FOUR, "deed 0..3 0 = 29 24 22 9", "deed 0..3 1 = 29 24 22 9", "deed 3 0 = 10");
        e.run("told hero 99;sort 20 0;sort 0 0", "49 x deed 0 0", "deed 0 0 = 1032", "deed 0 0 = 1032", "deed 0 1 = 1032");
        e.sentence("Promise 9", "UNKNOWN.");
        e.run("deed 0 0 = UNKNOWN", "count 8 = 0");
        e.run(FOUR, "deed 4 0 = UNKNOWN", "deed -1 0 = UNKNOWN", "deed 0 2 = UNKNOWN", "deed 0 -1 = UNKNOWN", "count 8 = 0");
        e.run("told hero 9", "deed 0 0 = UNKNOWN");
        e.run("told sort 9 9", "deed 0 0 = UNKNOWN");
    }

    private static void feast(Edges e) {
        e.sentence("Promise 10", "A FEAST: who has a JOINT (bits).");
        e.run("told hall 2;scale 9 1;hero 0", "feast = 0", "count 8 = 1");
        e.run("told hall 2;scale 9 1;hero 0;hero 0;hero 0;hero 0;hero 0;hero 99", "feast = 32");
        e.run("told hall 9;scale 0 1;" + Edges.clauses(6, "hero 0"), "feast = 63");
        e.run("told hall 2;scale 0 1;hero 0;sort 0 1", "deed 0 0", "feast = 0", "count 8 = 2", "undo = 1");
        e.sentence("Promise 10", "NOT: nobody is there.");
        e.run("feast = NOT", "count 8 = 0", "undo = NOT");
        e.run("told hero 99", "feast = 1", "told hall 2", "feast = NOT");
    }

    private static void year(Edges e) {
        e.sentence("Promise 11", "A YEAR: the YEAR.");
        e.run("year = 1", "count 3 = 1", "year = 2", "undo = 1", "count 3 = 1", "year = 2");
        e.run("511 x year", "year = 512");
        e.sentence("Promise 11", "FULL: it is YEAR 999.");
        // 512 calls do not reach so far, so that what comes here is free; it is as the words say all the same
        e.longRun("997 x year", "year = 998", "year = 999", "2 x year = FULL", "count 3 = 999", "undo = 7", "year = 999");
    }

    private static void scale(Edges e) {
        e.sentence("Promise 12", "THE SCALE is another one: the BASE that was.");
        e.run("scale 0 1 = 40", "scale 99 20 = 0", "scale 99 20 = 99", "count 4..5 = 99 20", "count 8 = 3");
        e.run("told hall 2;hero 0", "gets 0 = NONE", "scale 0 20 = 40", "gets 0 = 0", "scale 20 20 = 0", "gets 0 = 1");
        e.sentence("Promise 12", "OUTSIDE.");
        e.run("scale -1 1 = OUTSIDE", "scale 100 1 = OUTSIDE", "scale 0 0 = OUTSIDE", "scale 0 21 = OUTSIDE",
            "scale MIN 1 = OUTSIDE", "scale MAX 1 = OUTSIDE", "scale 0 MIN = OUTSIDE", "scale 0 MAX = OUTSIDE",
            "count 4..5 = 40 8", "count 8 = 0");
    }

    private static void undo(Edges e) {
        e.sentence("Promise 13", "The latest deed(), feast(), year(), scale() is undone");
        e.run("told hall 2;scale 5 1;hero 15;child 3;sort 6 4", "deed 0 0 = 11", "feast = 3", "year = 1", "scale 50 9 = 5",
            "undo = 3", "count 3..5 = 1 5 1", "undo = 2", "count 3 = 0", "person 0 1..7 = 15 6 4 11 0 0 1", "undo = 1",
            "person 0 1..7 = 15 6 4 11 0 NONE 0", "person 1 6..7 = NONE 0", "undo = 0", "person 0 1..7 = 15 0 0 5 0 NONE 0",
            "undo = NOT");
        e.run("told hall 2;scale 0 1;hero 0;sort 0 1", "feast = 1", "deed 0 0", "feast = 0", "person 0 6..7 = NONE 1", "undo = 2",
            "person 0 6..7 = 0 1", "undo = 1", "undo = 0", "person 0 6..7 = NONE 0");
        e.run("told hero 99;sort 20 0", "49 x deed 0 0", "2 x deed 0 0", "person 0 2 = 999", "undo", "person 0 2 = 999", "undo",
            "person 0 2 = 980", "deed 0 0", "year", "person 0 1..2 = 99 0", "undo", "person 0 1..2 = 99 999");
        e.run(FOUR, "deed 0 0", "seen 1 0 = 1", "text abc", "keep 0 = 0", "undo = 0", "count 7 = 1", "count 9 = 3", "back 0 = 0",
            "person 0 2 = 9");
        e.run(FOUR, "deed 0 0", "deed 9 9 = UNKNOWN", "scale 100 1 = OUTSIDE", "undo = 0", "person 0 2 = 0");
    }

    private static void undoRing(Edges e) {
        e.sentence("Promise 13", "(the last 8 can be): how many can be undone yet.");
        e.run("count 8 = 0", "7 x year", "count 8 = 7", "year", "count 8 = 8", "year", "count 8 = 8");
        e.run("8 x year", "8 x undo = 7 6 5 4 3 2 1 0", "count 3 = 0", "undo = NOT");
        e.run("9 x year", "8 x undo = 7 6 5 4 3 2 1 0", "count 3 = 1", "undo = NOT", "count 3 = 1");
        e.run("20 x year", "3 x undo = 7 6 5", "count 3 = 17", "2 x year = 18 19", "count 8 = 7", "7 x undo = 6 5 4 3 2 1 0",
            "count 3 = 12", "undo = NOT");
        e.run("5 x year", "5 x undo", "9 x year", "8 x undo", "count 3 = 1", "undo = NOT");
        e.run("told hero 0;sort 1 0", "100 x deed 0 0", "8 x undo", "person 0 2 = 92", "undo = NOT");
        e.sentence("Promise 13", "NOT: none.");
        e.run("undo = NOT", "year = 1", "undo = 0", "undo = NOT", "count 3 = 0");
        e.run("year = 1", "keep 0 = 1", "back 0 = 1", "undo = NOT");
        e.run("year = 1", "told hall 2", "undo = NOT");
    }

    private static void keep(Edges e) {
        e.sentence("Promise 14", "All as it is (but SEEN, what can be undone) is kept (k 0, 1): the YEAR.");
        e.run(FOUR, "keep 0 = 0", "deed 0..3 0", "feast", "year", "scale 9 9", "keep 1 = 1", "deed 0 1", "back 0 = 0",
            "count 3..5 = 0 20 5", "person 0 1..7 = 60 0 0 20 0 NONE 0", "back 1 = 1", "count 3..5 = 1 9 9",
            "person 0 1..3 = 64 0 0", "person 0 6..7 = 0 1");
        e.run(FOUR, "seen 1 1", "deed 0 0", "keep 0 = 0", "count 8 = 1", "count 7 = 1", "forget = 1", "back 0", "count 7 = 0",
            "count 8 = 0");
        e.run("keep 0 = 0", "seen 1 1", "back 0 = 0", "count 7 = 1");
        e.run("year", "keep 0 = 1", "year", "keep 0 = 2", "year", "back 0 = 2", "count 3 = 2");
        e.run(FOUR, "keep 0 = 0", "deed 0 0", "back 0 = 0", "deed 0 0", "back 0 = 0", "person 0 2..3 = 0 0");
        // of THE TEXT nothing is said that would take it out of "all"
        e.run("text hero 3", "keep 1 = 0", "erase = 6", "text child 4;x", "back 1 = 0", "count 9 = 6", "hall = 1",
            "person 0 0..1 = 0 3");
        e.run("160 x write 97", "keep 0 = 0", "erase = 160", "keep 1 = 0", "back 0 = 0", "write 97 = FULL", "back 1 = 0",
            "write 97 = 1");
        e.sentence("Promise 14", "UNKNOWN: no such k.");
        e.run("year", "keep -1 = UNKNOWN", "keep 2 = UNKNOWN", "keep MIN = UNKNOWN", "keep MAX = UNKNOWN", "back 0..1 = NOT NOT");
    }

    private static void back(Edges e) {
        e.sentence("Promise 15", "It is as it was kept, nothing can be undone: the YEAR.");
        e.run("3 x year", "keep 1 = 3", "3 x year", "count 8 = 6", "back 1 = 3", "count 3 = 3", "count 8 = 0", "undo = NOT",
            "year = 4", "undo = 0", "count 3 = 3", "back 1 = 3");
        e.run("keep 0 = 0", "20 x year", "back 0 = 0", "undo = NOT", "count 8 = 0", "9 x year", "8 x undo", "count 3 = 1");
        e.sentence("Promise 15", "UNKNOWN; NOT: nothing was kept since the last text.");
        e.run("back -1 = UNKNOWN", "back 2 = UNKNOWN", "back MIN = UNKNOWN", "back MAX = UNKNOWN", "back 0..1 = NOT NOT");
        e.run("keep 0 = 0", "back 1 = NOT", "back 0 = 0");
        e.run("keep 1 = 0", "back 0 = NOT", "back 1 = 0");
        e.run("keep 0..1 = 0 0", "told hall 2", "back 0..1 = NOT NOT", "keep 0 = 0", "back 0 = 0", "back 1 = NOT");
        e.run("keep 0..1 = 0 0", "text hall", "hall = NOT", "erase", "back 0..1 = 0 0");
    }

    private static void gets(Edges e) {
        e.sentence("Promise 16", "GETS; NONE.");
        e.run(FOUR, "gets 0..3 = 0 2 1 NONE", "2 x deed 0 1", "gets 0..3 = NONE 2 1 0");
        e.sentence("Promise 16", "UNKNOWN.");
        e.run("gets 0 = UNKNOWN");
        e.run(FOUR, "gets -1 = UNKNOWN", "gets 4 = UNKNOWN", "gets MIN = UNKNOWN", "gets MAX = UNKNOWN");
    }

    private static void need(Edges e) {
        e.sentence("Promise 17", "NEED; NONE.");
        e.run("told hall 2;scale 99 1;hero 0;child 0", "need 0 0..1 = 99 98", "need 1 0..1 = NONE 0");
        e.sentence("Promise 17", "UNKNOWN.");
        e.run("need 0 0 = UNKNOWN");
        e.run(FOUR, "need -1 0 = UNKNOWN", "need 4 0 = UNKNOWN", "need 0 -1 = UNKNOWN", "need 0 3 = UNKNOWN");
    }

    private static void deeds(Edges e) {
        e.sentence("Promise 18", "DEEDS: how many (k NONE), the k-th (0 .. 2; NONE: there are not so many).");
        e.run("told hall 2;scale 20 1;hero 0;sort 20 0", "deeds 0 0 NONE = 1", "deeds 0 0 0..2 = 0 NONE NONE");
        e.run("told hall 2;scale 60 1;hero 0;sort 0 1;sort 20 0", "deeds 0 0 NONE = 3", "deeds 0 0 0..2 = 1 1 1");
        e.run("told hall 2;scale 61 1;hero 0;sort 20 0", "deeds 0 0 NONE = NONE", "deeds 0 0 0..2 = NONE NONE NONE");
        e.sentence("Promise 18", "UNKNOWN; OUTSIDE.");
        e.run("deeds 0 0 0 = UNKNOWN", "deeds 0 0 3 = UNKNOWN");
        e.run(FOUR, "deeds -1 0 0 = UNKNOWN", "deeds 4 0 0 = UNKNOWN", "deeds 0 -1 0 = UNKNOWN", "deeds 0 3 0 = UNKNOWN",
            "deeds 0 0 -2 = OUTSIDE", "deeds 0 0 3 = OUTSIDE", "deeds 4 0 3 = UNKNOWN");
    }

    private static void seen(Edges e) {
        e.sentence("Promise 19", "SEEN: how many.");
        e.run("6 x seen 9 1 = 1 2 3 4 5 6", "count 7 = 6");
        e.sentence("Promise 19", "UNKNOWN (the JOINT may be NONE); OUTSIDE; FULL.");
        e.run("seen 9 NONE = 1", "seen 9 -2 = UNKNOWN", "seen 9 5 = UNKNOWN", "seen 9 4 = 2", "seen 100 4 = OUTSIDE",
            "seen -1 4 = OUTSIDE", "seen 0 0 = 3", "seen 99 0 = 4", "2 x seen 50 0", "seen 9 NONE = FULL", "seen 100 0 = OUTSIDE",
            "seen 9 5 = UNKNOWN", "seen 100 5 = UNKNOWN", "count 7 = 6");
    }

    private static void forget(Edges e) {
        e.sentence("Promise 20", "SEEN is nothing: how many there were.");
        e.run("forget = 0", "seen 50 1 = 1", "forget = 1", "forget = 0", "count 7 = 0", "scales 0 = 2000");
        e.run("6 x seen 50 1", "seen 50 1 = FULL", "forget = 6", "seen 0 0 = 1", "scales 0 = 20", "undo = NOT");
    }

    private static void scales(Edges e) {
        e.sentence("Promise 21", "SCALES: how many (what 0), the BASE (1), the STEP (2) of the least; NONE.");
        e.run("scales 0..2 = 2000 0 1", "scale 9 9", "scales 0..2 = 2000 0 1");
        e.run("told hall 2", "seen 98 1", "seen 79 1", "seen 78 NONE", "scales 0..2 = 1 99 20", "seen 0 0", "scales 0..2 = 0 NONE NONE");
        e.sentence("Promise 21", "OUTSIDE.");
        e.run("scales -1 = OUTSIDE", "scales 3 = OUTSIDE", "scales MIN = OUTSIDE", "scales MAX = OUTSIDE");
    }

    private static void tells(Edges e) {
        e.sentence("Promise 22", "TELLS; NONE.");
        e.run("told hall 2", "seen 90 1", "seen 89 NONE", "tells = 94", "seen 97 1", "tells = 98", "seen 98 1", "tells = 0",
            "seen 99 1", "tells = NONE");
    }

    private static void chance(Edges e) {
        e.sentence("Promise 23", "CHANCE.");
        e.run("told hall 2;scale 0 1;hero 3;hero 0;sort 2 0", "chance 0 0 0 4 0..1 = 3 5", "chance 0 1 0 4 0..1 = 2 5",
            "chance 1 0 0 4 0..1 = 0 1", "chance 1 1 0 4 0..1 = 1 1");
        e.sentence("Promise 23", "UNKNOWN; OUTSIDE.");
        e.run("chance 0 0 0 0 0 = UNKNOWN", "chance 0 0 0 11 0 = UNKNOWN");
        e.run(FOUR, "chance -1 0 0 5 0 = UNKNOWN", "chance 4 0 0 5 0 = UNKNOWN", "chance 0 -1 0 5 0 = UNKNOWN",
            "chance 0 3 0 5 0 = UNKNOWN", "chance 0 0 -1 5 0 = UNKNOWN", "chance 0 0 2 5 0 = UNKNOWN",
            "chance 0 0 0 -1 0 = OUTSIDE", "chance 0 0 0 11 0 = OUTSIDE", "chance 0 0 0 5 -1 = OUTSIDE",
            "chance 0 0 0 5 2 = OUTSIDE", "chance 0 0 2 11 2 = UNKNOWN");
        e.run("told hero 9", "chance 0 0 0 5 0 = UNKNOWN");
    }

    private static void count(Edges e) {
        e.sentence("Promise 24", "0 JOINTS, 1 PEOPLE, 2 SORTS, 3 the YEAR, 4 BASE, 5 STEP, 6 those AFRAID (bits), 7 SEEN, 8 how many"
            + " can be undone, 9 letters of THE TEXT.");
        e.run("told hall 9;scale 99 20;" + Edges.clauses(6, "child 0") + ";" + Edges.clauses(6, "sort 0 1"), "year", "10 x deed 0 0",
            "deed 5 5", "6 x seen 0 8", "160 x write 32", "count 0..9 = 9 6 6 1 99 20 33 6 8 160");
        e.run("told hall 2;scale 0 1", "count 0..9 = 2 0 0 0 0 1 0 0 0 0");
        e.sentence("Promise 24", "OUTSIDE.");
        e.run("count -1 = OUTSIDE", "count 10 = OUTSIDE", "count MIN = OUTSIDE", "count MAX = OUTSIDE");
    }
}
