/** The end of the terms: which refusal comes first, and that a refused call changes nothing. */
final class RefusalEdges {
    private static final String TERMS = "Terms";
    private static final String MUCH = "told hall 3;scale 20 5;hero 60;boaster 30;modest 50;child 4;sort 9 2;sort 0 20";

    /** A state in which there is something of everything; nothing is kept at 0, and the text has a fault. */
    static final String[] BEFORE = {MUCH, "deed 1 0", "feast", "keep 1", "year", "deed 0 0", "scale 21 4", "deed 3 1", "seen 15 1",
        "seen 20 0", "text hero 5;child 100"};

    /** Each asks for another part of the state: what can be asked, what can be undone, is kept, is written, is seen. */
    static final String[][] PROBES = {
        {"count 0..9", "person 0..3 0", "person 0..3 1", "person 0..3 2", "person 0..3 3", "person 0..3 4", "person 0..3 5",
            "person 0..3 6", "person 0..3 7", "sort 0..1 0", "sort 0..1 1", "gets 0..3", "scales 0..2", "tells", "fault"},
        {"undo", "count 3..8", "person 0..3 2", "undo", "count 3..8", "person 0..3 2", "undo", "count 3..8", "person 0..3 2",
            "undo", "count 3..8", "person 0..3 2", "undo", "count 3..8", "person 0..3 7", "undo", "count 3..8", "person 0..3 2",
            "undo", "undo"},
        {"back 0", "count 0..9", "back 1", "count 0..9", "person 0..3 1", "person 0..3 2", "person 0..3 3", "person 0..3 6",
            "person 0..3 7", "fault", "undo"},
        {"fault", "hall", "erase", "hall", "text modest 9", "hall", "count 0..9", "person 0..4 1"},
        {"seen 1 1", "seen 2 1", "seen 3 1", "scales 0..2", "seen 4 1", "seen 5 1", "forget", "count 7"},
        {"write 59", "fault", "year", "deed 0 0", "feast", "undo", "undo", "count 0..9"},
    };

    private RefusalEdges() {
    }

    static void tell(Edges e) {
        e.sentence(TERMS, "Refused, and nothing changes:");
        everyRefusal(e);
        e.sentence(TERMS, "UNKNOWN (no such person, JOINT, SORT),");
        farNumbers(e, "UNKNOWN");
        e.sentence(TERMS, "OUTSIDE (another number is not as told),");
        farNumbers(e, "OUTSIDE");
        e.sentence(TERMS, "NOT (not now: as told),");
        notNow(e);
        e.sentence(TERMS, "FULL:");
        full(e);
        e.sentence(TERMS, "the first of these that fits.");
        firstThatFits(e);
    }

    private static void refused(Edges e, String[] before, String call, String refusal) {
        e.run(Edges.rows(before, call + " = " + refusal));
        e.changesNothing(before, call, PROBES);
    }

    private static void everyRefusal(Edges e) {
        for (String call : new String[] {"person 4 0", "sort 2 0", "as 4 0", "deed 4 0", "deed 0 2", "keep 2", "keep -1", "back 2",
            "back -1", "gets 4", "need 4 0", "need 0 3", "deeds 4 0 0", "deeds 0 3 0", "seen 15 3", "seen 15 -2",
            "chance 4 0 0 5 0", "chance 0 3 0 5 0", "chance 0 0 2 5 0"}) {
            refused(e, BEFORE, call, "UNKNOWN");
        }
        for (String call : new String[] {"write 256", "write -1", "person 0 8", "sort 0 2", "as 0 5", "scale 100 4", "scale -1 4",
            "scale 20 0", "scale 20 21", "deeds 0 0 3", "deeds 0 0 -2", "seen 100 1", "seen -1 1", "scales 3", "scales -1",
            "chance 0 0 0 11 0", "chance 0 0 0 -1 0", "chance 0 0 0 5 2", "chance 0 0 0 5 -1", "count 10", "count -1"}) {
            refused(e, BEFORE, call, "OUTSIDE");
        }
    }

    private static void notNow(Edges e) {
        refused(e, BEFORE, "hall", "NOT");
        refused(e, BEFORE, "as 0 2", "NOT");
        refused(e, BEFORE, "as 3 1", "NOT");
        refused(e, BEFORE, "back 0", "NOT");
        refused(e, new String[] {MUCH, "text child 9"}, "undo", "NOT");
        refused(e, new String[] {MUCH, "deed 0 0", "keep 0", "undo", "seen 9 1"}, "undo", "NOT");
        refused(e, new String[] {"year", "scale 9 9", "keep 0", "seen 9 1", "text hero 9"}, "feast", "NOT");
        refused(e, new String[] {MUCH, "deed 0 0", "keep 0", "keep 1", "told hero 9", "deed 0 0"}, "back 1", "NOT");
    }

    private static void full(Edges e) {
        refused(e, Edges.rows(BEFORE, "160 x write 59"), "write 97", "FULL");
        refused(e, new String[] {MUCH, "text " + " ".repeat(152) + "modest 5"}, "write 57", "FULL");
        refused(e, Edges.rows(BEFORE, "4 x seen 15 1"), "seen 16 1", "FULL");
        e.longRun("999 x year", "count 3 = 999", "year = FULL", "count 3 = 999", "count 8 = 8", "undo = 7", "count 3 = 998",
            "year = 999", "year = FULL");
    }

    /** For each number of a call: how it is refused, where all the others are as told. */
    private static void farNumbers(Edges e, String refusal) {
        String[][] calls = {{"write 97", "OUTSIDE"}, {"person 1 2", "UNKNOWN", "OUTSIDE"}, {"sort 1 1", "UNKNOWN", "OUTSIDE"},
            {"as 0 1", "UNKNOWN", "OUTSIDE"}, {"deed 1 1", "UNKNOWN", "UNKNOWN"}, {"scale 20 5", "OUTSIDE", "OUTSIDE"},
            {"keep 1", "UNKNOWN"}, {"back 1", "UNKNOWN"}, {"gets 1", "UNKNOWN"}, {"need 1 1", "UNKNOWN", "UNKNOWN"},
            {"deeds 1 1 1", "UNKNOWN", "UNKNOWN", "OUTSIDE"}, {"seen 50 1", "OUTSIDE", "UNKNOWN"}, {"scales 1", "OUTSIDE"},
            {"chance 1 1 1 5 1", "UNKNOWN", "UNKNOWN", "UNKNOWN", "OUTSIDE", "OUTSIDE"}, {"count 1", "OUTSIDE"}};
        for (String[] each : calls) {
            for (int i = 1; i < each.length; i++) {
                if (each[i].equals(refusal)) {
                    farNumber(e, each[0], i, refusal);
                }
            }
        }
    }

    /** Numbers that would be right ones, if bits of them were cut off, and the farthest there are. */
    private static void farNumber(Edges e, String call, int at, String refusal) {
        String[] words = call.split(" ");
        int right = Integer.parseInt(words[at]);
        int[] far = {right + 256, right - 256, right + 65536, right - 65536, right + Integer.MIN_VALUE, Integer.MIN_VALUE,
            Integer.MAX_VALUE, Integer.MIN_VALUE + 1, Integer.MAX_VALUE - 1, right - 1000, right + 1000};
        for (int number : far) {
            words[at] = String.valueOf(number);
            refused(e, BEFORE, String.join(" ", words), refusal);
        }
    }

    private static void firstThatFits(Edges e) {
        e.run("160 x write 59", "write 256 = OUTSIDE", "write -1 = OUTSIDE", "write 97 = FULL");
        e.run(Edges.rows(BEFORE, "person 4 8 = UNKNOWN", "person -1 -1 = UNKNOWN", "sort 2 2 = UNKNOWN", "sort -1 -1 = UNKNOWN"));
        e.run(Edges.rows(BEFORE, "as 4 5 = UNKNOWN", "as -1 -1 = UNKNOWN", "as 3 5 = OUTSIDE", "as 3 -1 = OUTSIDE", "as 3 1 = NOT"));
        e.run(Edges.rows(BEFORE, "back 2 = UNKNOWN", "back 0 = NOT"));
        e.run("back 2 = UNKNOWN", "back -1 = UNKNOWN", "back 0..1 = NOT NOT");
        e.run(Edges.rows(BEFORE, "deeds 4 0 3 = UNKNOWN", "deeds 0 3 3 = UNKNOWN", "deeds 0 -1 -2 = UNKNOWN",
            "deeds 0 0 3 = OUTSIDE"));
        e.run("6 x seen 50 1", "seen 100 5 = UNKNOWN", "seen 50 5 = UNKNOWN", "seen 50 -2 = UNKNOWN", "seen 100 1 = OUTSIDE",
            "seen -1 NONE = OUTSIDE", "seen 50 1 = FULL");
        e.run("seen 100 5 = UNKNOWN", "seen -1 -2 = UNKNOWN");
        e.run(Edges.rows(BEFORE, "chance 4 0 0 11 2 = UNKNOWN", "chance 0 3 0 11 0 = UNKNOWN", "chance 0 0 2 5 2 = UNKNOWN",
            "chance 0 0 0 11 2 = OUTSIDE"));
        e.run("deed 0 0 = UNKNOWN", "need 0 0 = UNKNOWN", "deeds 0 0 3 = UNKNOWN", "chance 0 0 0 11 2 = UNKNOWN");
    }
}
