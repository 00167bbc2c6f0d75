/** For each promise of the document: ordinary inputs, the edges that it names, wrong inputs. */
public final class PromisesTest {
    private static final int NONE = -1, UNKNOWN = -2, OUTSIDE = -3, NOT = -4, FULL = -5;
    private static final int MIN = Integer.MIN_VALUE, MAX = Integer.MAX_VALUE;
    private static int checks = 0;
    private static int wrong = 0;

    private static void due(String what, int got, int want) {
        checks++;
        if (got != want) {
            wrong++;
            System.out.println(what + " answered " + got + ", due is " + want);
        }
    }

    private static CowardsPot write(CowardsPot pot, String text) {
        for (int i = 0; i < text.length(); i++) {
            pot.write(text.charAt(i));
        }
        return pot;
    }

    private static CowardsPot told(String text) {
        CowardsPot pot = write(new CowardsPot(), text);
        if (pot.hall() < 0) {
            wrong++;
            System.out.println("refused: " + text);
        }
        return pot;
    }

    private static void faultDue(String text, int want) {
        CowardsPot pot = write(new CowardsPot(), text);
        due("fault of '" + text + "'", pot.fault(), want);
        due("letters behind fault of '" + text + "'", pot.count(9), text.length());
        if (want != NONE) {
            due("hall of '" + text + "'", pot.hall(), NOT);
            due("letters behind a refused hall", pot.count(9), text.length());
        }
    }

    private static void repeat(CowardsPot pot, int times, int person, int sort) {
        for (int i = 0; i < times; i++) {
            pot.deed(person, sort);
        }
    }

    public static void main(String[] args) {
        promise1();
        promise2();
        promise3();
        promise4();
        promise4People();
        promise5();
        promise5Anew();
        promise6();
        promise6Scores();
        promise7();
        promise8();
        promise9();
        promise10();
        promise10Order();
        promise11();
        promise12();
        promise13();
        promise14And15();
        promise15Text();
        promise16();
        promise17();
        promise18();
        promise19And20();
        promise21();
        promise22();
        promise23();
        promise24();
        System.out.println(checks + " checks, " + wrong + " wrong");
        if (wrong != 0) {
            System.exit(1);
        }
    }

    private static void promise1() {
        due("NONE", CowardsPot.NONE, -1);
        due("UNKNOWN", CowardsPot.UNKNOWN, -2);
        due("OUTSIDE", CowardsPot.OUTSIDE, -3);
        due("NOT", CowardsPot.NOT, -4);
        due("FULL", CowardsPot.FULL, -5);
        int[] first = {5, 0, 0, 0, 40, 8, 0, 0, 0, 0};
        CowardsPot pot = new CowardsPot();
        for (int what = 0; what < first.length; what++) {
            due("1: count(" + what + ")", pot.count(what), first[what]);
        }
        due("1: nothing is kept", pot.back(0), NOT);
        due("1: nothing to undo", pot.undo(), NOT);
        CowardsPot other = new CowardsPot();
        pot.year();
        due("1: one object knows nothing of another", other.count(3), 0);
    }

    private static void promise2() {
        CowardsPot pot = new CowardsPot();
        due("2: below", pot.write(-1), OUTSIDE);
        due("2: above", pot.write(256), OUTSIDE);
        due("2: far below", pot.write(MIN), OUTSIDE);
        due("2: far above", pot.write(MAX), OUTSIDE);
        for (int i = 1; i <= 160; i++) {
            due("2: write", pot.write(i % 2 == 0 ? 0 : 255), i);
        }
        due("2: full", pot.write(97), FULL);
        due("2: outside goes before full", pot.write(256), OUTSIDE);
        due("2: still 160", pot.count(9), 160);
    }

    private static void promise3() {
        CowardsPot pot = new CowardsPot();
        due("3: of an empty one", pot.erase(), 0);
        write(pot, "hero 3");
        due("3: erase", pot.erase(), 6);
        due("3: it is empty", pot.count(9), 0);
        due("3: write anew", pot.write('c'), 1);
        write(pot, "hild 9");
        due("3: what was erased is gone", pot.hall(), 1);
        due("3: the child", pot.person(0, 0), 3);
    }

    private static void promise4() {
        faultDue("", 0);
        faultDue("   ", 3);
        faultDue("hall 2", NONE);
        faultDue("hall 9", NONE);
        faultDue("hall 1", 5);
        faultDue("hall 10", 5);
        faultDue("hall 04", NONE);
        faultDue("hall 004", 5);
        faultDue("hall4", NONE);
        faultDue("  hall   4  ", NONE);
        faultDue("hall", 4);
        faultDue("hall ", 5);
        faultDue("hall ;", 5);
        faultDue("hall four", 5);
        faultDue("hall 4 5", 7);
        faultDue("hall 4x", 6);
        faultDue("hall 4 ; ; hall 4", 9);
        faultDue("hall 4;", 7);
        faultDue("hall 4;  ", 9);
        faultDue(";hall 4", 0);
        faultDue("halls 4", 0);
        faultDue("hal 4", 0);
        faultDue("hallz 4", 0);
        faultDue("zhall 4", 0);
        faultDue("hall{4", 4);
        faultDue("hall 4:", 6);
        faultDue("hall 4/", 6);
        faultDue("hall`4", 4);
        faultDue("Hall 4", 0);
        faultDue("hAll 4", 0);
        faultDue("4", 0);
        faultDue("hall 4.", 6);
        faultDue("hall\t4", 4);
        faultDue("hall -4", 5);
        faultDue("scale 0 1", NONE);
        faultDue("scale 99 20", NONE);
        faultDue("scale 100 20", 6);
        faultDue("scale 99 21", 9);
        faultDue("scale 99 0", 9);
        faultDue("scale 99", 8);
        faultDue("scale 99;", 8);
        faultDue("scale 99 1 1", 11);
        faultDue("hero 0;boaster 99;modest 5;child 7", NONE);
        faultDue("hero 99;boaster 0;modest 0;child 99", NONE);
        faultDue("modest 99;child 0", NONE);
        faultDue("hero 100", 5);
        faultDue("boaster 100", 8);
        faultDue("modest 100", 7);
        faultDue("child 100", 6);
        faultDue("hero 9 9", 7);
        faultDue("person 9", 0);
        faultDue("sort 0 0", NONE);
        faultDue("sort 20 20", NONE);
        faultDue("sort 21 20", 5);
        faultDue("sort 20 21", 8);
        faultDue("sort 20", 7);
        faultDue("sort 1 1;poet", 9);
    }

    private static void promise4People() {
        String six = "hero 1;hero 1;child 1;modest 1;boaster 1;hero 1";
        faultDue(six, NONE);
        faultDue(six + ";child 1", six.length() + 1);
        faultDue(six + "; hero", six.length() + 2);
        faultDue(six + ";hall 2;child 1", NONE);
        faultDue(six + ";sort 1 1", NONE);
        String sorts = "sort 1 1;sort 1 1;sort 1 1;sort 1 1;sort 1 1;sort 1 1";
        faultDue(sorts, NONE);
        faultDue(sorts + ";sort 1 1", sorts.length() + 1);
        faultDue(sorts + ";hall 2;sort 1 1", NONE);
        faultDue(sorts + ";hero 1", NONE);
        CowardsPot pot = told(six + ";sort 1 1");
        write(pot, "scale 1 1;hero 1");
        due("4: a seventh behind an earlier text", pot.fault(), 10);
        pot.erase();
        due("4: a hall makes room", write(pot, "hall 3;hero 1").fault(), NONE);
        due("4: nothing was done yet", pot.count(1), 6);
        StringBuilder many = new StringBuilder("hall 2");
        for (int i = 1; i < 14; i++) {
            many.append(";hall 2");
        }
        faultDue(many.toString(), NONE);
        faultDue(many + " ;", many.length() + 1);
        faultDue(many + ";hall 2", many.length());
    }

    private static void promise5() {
        CowardsPot pot = write(new CowardsPot(), "hall 3;scale 20 5;hero 9;boaster 8;modest 7;child 6;sort 4 5");
        due("5: hall", pot.hall(), 7);
        due("5: the text is empty", pot.count(9), 0);
        due("5: an empty text has a fault", pot.hall(), NOT);
        due("5: joints", pot.count(0), 3);
        due("5: base", pot.count(4), 20);
        due("5: step", pot.count(5), 5);
        for (int i = 0; i < 4; i++) {
            due("5: kind", pot.person(i, 0), i);
            due("5: fame", pot.person(i, 1), 9 - i);
        }
        due("5: gain of the sort", pot.sort(0, 0), 4);
        due("5: fear of the sort", pot.sort(0, 1), 5);
        due("5: more by a later text", write(pot, "hero 5;sort 1 2").hall(), 2);
        due("5: people stay", pot.count(1), 5);
        due("5: sorts stay", pot.count(2), 2);
        due("5: joints stay", pot.count(0), 3);
        due("5: base stays", pot.count(4), 20);
        due("5: a fault does nothing", write(pot, "hall 5;hero 100").hall(), NOT);
        due("5: people are there yet", pot.count(1), 5);
        pot.erase();
        due("5: hall in the middle", write(pot, "hero 1;scale 1 1;hall 7;child 2").hall(), 4);
        due("5: as at first but joints", pot.count(0), 7);
        due("5: base as at first", pot.count(4), 40);
        due("5: step as at first", pot.count(5), 8);
        due("5: people behind the hall alone", pot.count(1), 1);
        due("5: the child", pot.person(0, 0), 3);
        due("5: no sorts", pot.count(2), 0);
        pot = write(new CowardsPot(), "scale 9 9;scale 8 7");
        pot.hall();
        due("5: clauses in their order", pot.count(4), 8);
    }

    private static void promise5Anew() {
        CowardsPot pot = told("hero 30;sort 20 1");
        repeat(pot, 2, 0, 0);
        pot.feast();
        pot.year();
        pot.deed(0, 0);
        pot.seen(1, 1);
        pot.keep(1);
        pot.scale(50, 3);
        due("5: a refused text", write(pot, "x").hall(), NOT);
        due("5: leaves the year", pot.count(3), 1);
        due("5: leaves what is seen", pot.count(7), 1);
        due("5: leaves what can be undone", pot.count(8), 6);
        pot.erase();
        due("5: fame had grown", pot.person(0, 1), 50);
        due("5: another text", write(pot, "child 1").hall(), 1);
        int[] first = {0, 30, 0, 0, 10, 0, NONE, 0};
        for (int what = 0; what < first.length; what++) {
            due("5: anew, person " + what, pot.person(0, what), first[what]);
        }
        due("5: year 0", pot.count(3), 0);
        due("5: nothing seen", pot.count(7), 0);
        due("5: nothing can be undone", pot.count(8), 0);
        due("5: nor is it", pot.undo(), NOT);
        due("5: nothing is kept", pot.back(1), NOT);
        due("5: the scale is as it was", pot.count(4), 50);
        due("5: and its step", pot.count(5), 3);
    }

    private static void promise6() {
        CowardsPot pot = told("hall 2;scale 30 1;hero 90;child 5;sort 7 3");
        pot.deed(0, 0);
        pot.feast();
        pot.feast();
        int[] hero = {0, 90, 7, 3, 37, 0, 0, 2};
        int[] child = {3, 5, 0, 0, 0, 0, 1, 2};
        for (int what = 0; what < 8; what++) {
            due("6: hero " + what, pot.person(0, what), hero[what]);
            due("6: child " + what, pot.person(1, what), child[what]);
        }
        pot.scale(99, 1);
        pot.feast();
        due("6: none at the latest feast", pot.person(0, 6), NONE);
        due("6: those of all feasts", pot.person(0, 7), 2);
        due("6: below", pot.person(-1, 0), UNKNOWN);
        due("6: above", pot.person(2, 0), UNKNOWN);
        due("6: far", pot.person(MIN, 0), UNKNOWN);
        due("6: what below", pot.person(0, -1), OUTSIDE);
        due("6: what above", pot.person(0, 8), OUTSIDE);
        due("6: unknown goes first", pot.person(9, 8), UNKNOWN);
    }

    private static void promise6Scores() {
        CowardsPot pot = told("hero 98;boaster 98;modest 98;child 98;sort 7 0;sort 0 1;sort 4 19");
        int[] none = {32, 32, 24, 0};
        int[] some = {39, 44, 30, 7};
        int[] more = {46, 51, 35, 10};
        for (int i = 0; i < 4; i++) {
            due("6: score of fame alone", pot.person(i, 4), none[i]);
            due("6: a deed without gain", pot.deed(i, 1), none[i]);
            due("6: with gain", pot.deed(i, 0), some[i]);
            due("6: with more", pot.deed(i, 0), more[i]);
        }
        pot = told("child 9;hero 3;sort 2 2;sort 0 1;sort 2 0");
        pot.deed(0, 0);
        due("6: fear as the score is not afraid", pot.person(0, 5), 0);
        pot.deed(0, 1);
        due("6: more is", pot.person(0, 5), 1);
        due("6: in bits", pot.count(6), 1);
        pot.deed(0, 2);
        due("6: gain takes it away", pot.person(0, 5), 0);
    }

    private static void promise7() {
        CowardsPot pot = told("sort 20 0;sort 3 19");
        due("7: gain", pot.sort(0, 0), 20);
        due("7: fear", pot.sort(0, 1), 0);
        due("7: gain of another", pot.sort(1, 0), 3);
        due("7: fear of another", pot.sort(1, 1), 19);
        due("7: above", pot.sort(2, 0), UNKNOWN);
        due("7: below", pot.sort(-1, 0), UNKNOWN);
        due("7: what", pot.sort(1, 2), OUTSIDE);
        due("7: what below", pot.sort(1, -1), OUTSIDE);
        due("7: unknown goes first", pot.sort(2, 2), UNKNOWN);
    }

    private static void promise8() {
        CowardsPot pot = told("hero 10;boaster 10;modest 10;child 10;hero 95;sort 15 1");
        int[][] isSuch = {{1, 1, 0, 0, 0}, {1, 1, 1, 0, 0}, {1, 1, 0, 1, 0}, {1, 0, 0, 0, 1}, {1, 1, 0, 0, 0}};
        int[] more = {7, 3, 7, 7, 4};
        for (int i = 0; i < 5; i++) {
            pot.deed(i, 0);
            for (int kind = 0; kind < 5; kind++) {
                due("8: as(" + i + ", " + kind + ")", pot.as(i, kind), isSuch[i][kind] == 1 ? more[i] : NOT);
            }
        }
        due("8: nothing changes", pot.person(0, 1), 10);
        due("8: kind below", pot.as(0, -1), OUTSIDE);
        due("8: kind above", pot.as(0, 5), OUTSIDE);
        due("8: nobody", pot.as(5, 0), UNKNOWN);
        due("8: unknown goes first", pot.as(-1, 5), UNKNOWN);
        pot.year();
        for (int i = 0; i < 5; i++) {
            due("8: it comes true", pot.person(i, 1), (i == 4 ? 95 : 10) + more[i]);
            due("8: no gain, no more", pot.as(i, 0), 0);
        }
    }

    private static void promise9() {
        CowardsPot pot = told("hero 9;sort 20 19;sort 0 20");
        due("9: deed", pot.deed(0, 0), 23);
        due("9: gain", pot.person(0, 2), 20);
        due("9: fear", pot.person(0, 3), 19);
        due("9: no such person", pot.deed(1, 0), UNKNOWN);
        due("9: person below", pot.deed(-1, 0), UNKNOWN);
        due("9: no such sort", pot.deed(0, 2), UNKNOWN);
        due("9: sort below", pot.deed(0, -1), UNKNOWN);
        due("9: refused ones can't be undone", pot.count(8), 1);
        repeat(pot, 48, 0, 0);
        due("9: gain 980", pot.person(0, 2), 980);
        due("9: to the most", pot.deed(0, 0), 1002);
        due("9: not beyond", pot.deed(0, 0), 1002);
        due("9: gain 999", pot.person(0, 2), 999);
        due("9: fear is 969", pot.person(0, 3), 969);
        repeat(pot, 3, 0, 1);
        due("9: fear 999", pot.person(0, 3), 999);
    }

    private static void promise10() {
        CowardsPot pot = new CowardsPot();
        due("10: nobody is there", pot.feast(), NOT);
        due("10: not to be undone", pot.count(8), 0);
        pot = told("hall 3;scale 20 5;hero 60;hero 60;hero 60;hero 60;hero 27;child 0");
        due("10: feast", pot.feast(), 0b000111);
        int[] joints = {0, 1, 2, NONE, NONE, NONE};
        for (int i = 0; i < 6; i++) {
            due("10: by numbers", pot.gets(i), joints[i]);
            due("10: has", pot.person(i, 6), joints[i]);
        }
    }

    private static void promise10Order() {
        CowardsPot pot = told("hall 3;scale 20 5;hero 60;child 0;hero 27;child 9;sort 0 1;sort 10 0");
        due("10: children last by score", pot.feast(), 0b1011);
        due("10: the thigh", pot.person(0, 6), 0);
        due("10: a child has the last", pot.person(1, 6), 2);
        due("10: 9 is for none", pot.person(2, 6), NONE);
        due("10: another child the last yet there", pot.person(3, 6), 1);
        pot.deed(1, 0);
        due("10: a child afraid has none", pot.feast(), 0b1001);
        due("10: none", pot.person(1, 6), NONE);
        due("10: had one in all", pot.person(1, 7), 1);
        due("10: the other has the heel", pot.person(3, 6), 2);
        pot.deed(3, 1);
        pot.deed(2, 1);
        due("10: by score, not by number", pot.feast(), 0b1101);
        due("10: score 19 takes the second", pot.person(2, 6), 1);
        due("10: the child behind it the heel", pot.person(3, 6), 2);
        CowardsPot all = told("hall 2;scale 0 20;hero 0;hero 0;child 0;sort 0 20");
        due("10: a bound below 0 is for all", all.feast(), 0b011);
        due("10: first", all.person(0, 6), 0);
        due("10: second", all.person(1, 6), 1);
        due("10: the child none", all.person(2, 6), NONE);
        for (int i = 0; i < 3; i++) {
            all.deed(i, 0);
        }
        due("10: all are afraid", all.feast(), 0);
    }

    private static void promise11() {
        CowardsPot pot = told("hero 10;boaster 10;modest 10;child 10;hero 95;sort 19 3;scale 0 1");
        for (int i = 0; i < 5; i++) {
            pot.deed(i, 0);
        }
        pot.feast();
        due("11: year", pot.year(), 1);
        int[] fame = {19, 14, 19, 19, 99};
        for (int i = 0; i < 5; i++) {
            due("11: fame", pot.person(i, 1), fame[i]);
            due("11: gain", pot.person(i, 2), 0);
            due("11: fear", pot.person(i, 3), 0);
            due("11: joints in all stay", pot.person(i, 7), 1);
        }
        due("11: the latest joint stays", pot.person(4, 6), 0);
        due("11: next", pot.year(), 2);
        CowardsPot old = new CowardsPot();
        for (int year = 1; year <= 999; year++) {
            due("11: year", old.year(), year);
        }
        due("11: full", old.year(), FULL);
        due("11: stays", old.count(3), 999);
    }

    private static void promise12() {
        CowardsPot pot = new CowardsPot();
        due("12: the base that was", pot.scale(0, 20), 40);
        due("12: and then", pot.scale(99, 1), 0);
        due("12: base", pot.count(4), 99);
        due("12: step", pot.count(5), 1);
        int[][] outside = {{-1, 5}, {100, 5}, {5, 0}, {5, 21}, {MIN, 5}, {5, MAX}};
        for (int[] each : outside) {
            due("12: outside", pot.scale(each[0], each[1]), OUTSIDE);
        }
        due("12: nothing changed", pot.count(4), 99);
        due("12: two can be undone", pot.count(8), 2);
    }

    private static void promise13() {
        CowardsPot pot = told("hall 2;scale 5 1;hero 15;child 3;sort 6 4");
        pot.deed(0, 0);
        pot.feast();
        pot.year();
        pot.scale(50, 9);
        due("13: undo a scale", pot.undo(), 3);
        due("13: base", pot.count(4), 5);
        due("13: step", pot.count(5), 1);
        due("13: undo a year", pot.undo(), 2);
        due("13: year", pot.count(3), 0);
        due("13: fame", pot.person(0, 1), 15);
        due("13: gain", pot.person(0, 2), 6);
        due("13: undo a feast", pot.undo(), 1);
        due("13: no joint", pot.person(0, 6), NONE);
        due("13: none in all", pot.person(0, 7), 0);
        due("13: undo a deed", pot.undo(), 0);
        due("13: no fear", pot.person(0, 3), 0);
        due("13: none", pot.undo(), NOT);
        for (int i = 1; i <= 12; i++) {
            pot.deed(0, 0);
            due("13: how many can be", pot.count(8), Math.min(8, i));
        }
        for (int i = 7; i >= 0; i--) {
            due("13: back", pot.undo(), i);
            due("13: gain as it was", pot.person(0, 2), 24 + 6 * i);
        }
        due("13: the last 8 alone", pot.undo(), NOT);
        pot.seen(1, 1);
        pot.deed(0, 0);
        pot.seen(2, 1);
        write(pot, "abc");
        due("13: one more", pot.undo(), 0);
        due("13: what is seen stays", pot.count(7), 2);
        due("13: the text stays", pot.count(9), 3);
    }

    private static void promise14And15() {
        CowardsPot pot = told("hall 2;scale 5 1;hero 15;child 3;sort 6 4");
        due("14: below", pot.keep(-1), UNKNOWN);
        due("14: above", pot.keep(2), UNKNOWN);
        due("15: below", pot.back(-1), UNKNOWN);
        due("15: above", pot.back(2), UNKNOWN);
        due("15: nothing kept", pot.back(0), NOT);
        pot.deed(0, 0);
        pot.feast();
        due("14: keep", pot.keep(0), 0);
        due("14: what can be undone stays", pot.count(8), 2);
        due("15: not this one", pot.back(1), NOT);
        pot.year();
        pot.scale(60, 7);
        pot.deed(0, 0);
        pot.seen(7, 1);
        due("14: another", pot.keep(1), 1);
        due("15: back", pot.back(0), 0);
        due("15: year", pot.count(3), 0);
        due("15: base", pot.count(4), 5);
        due("15: step", pot.count(5), 1);
        int[] hero = {0, 15, 6, 4, 11, 0, 0, 1};
        for (int what = 0; what < 8; what++) {
            due("15: person " + what, pot.person(0, what), hero[what]);
        }
        due("15: nothing can be undone", pot.undo(), NOT);
        due("15: seen stays", pot.count(7), 1);
        pot.forget();
        due("15: to the other", pot.back(1), 1);
        due("15: base of the other", pot.count(4), 60);
        due("15: fame of the other", pot.person(0, 1), 18);
        due("15: seen is not of it", pot.count(7), 0);
        due("15: as often as one likes", pot.back(0), 0);
        pot.year();
        pot.year();
        due("14: over the older", pot.keep(0), 2);
        pot.year();
        due("15: the newer", pot.back(0), 2);
        due("15: a new text", write(pot, "hero 1").hall(), 1);
        due("15: kept no more", pot.back(0), NOT);
        due("15: nor the other", pot.back(1), NOT);
    }

    /** All is kept but SEEN and what can be undone: by these words THE TEXT is kept too. */
    private static void promise15Text() {
        CowardsPot pot = write(new CowardsPot(), "hero 3");
        pot.keep(0);
        pot.erase();
        write(pot, "child 44;");
        due("15: the text", pot.back(0), 0);
        due("15: its letters", pot.count(9), 6);
        due("15: it is the one that was", pot.hall(), 1);
        due("15: a hero", pot.person(0, 0), 0);
    }

    private static void promise16() {
        CowardsPot pot = told("hall 3;scale 20 5;hero 30;child 0;hero 45;modest 99;sort 0 20;sort 10 0");
        int[] first = {2, NONE, 1, 0};
        for (int i = 0; i < 4; i++) {
            due("16: gets", pot.gets(i), first[i]);
        }
        pot.deed(3, 1);
        pot.deed(3, 0);
        due("16: 33 and 20 less a quarter", pot.person(3, 4), 33);
        due("16: not afraid", pot.gets(3), 0);
        pot.deed(3, 0);
        due("16: afraid", pot.gets(3), NONE);
        due("16: the child has the thigh then, the last one there", pot.gets(1), 0);
        due("16: nothing was done", pot.person(1, 6), NONE);
        due("16: nothing to undo more", pot.count(8), 3);
        due("16: nobody", pot.gets(4), UNKNOWN);
        due("16: below", pot.gets(-1), UNKNOWN);
    }

    private static void promise17() {
        CowardsPot pot = told("hall 3;scale 20 5;hero 30;child 0;boaster 45;sort 0 20;sort 20 0");
        due("17: as it is", pot.need(2, 1), 0);
        due("17: five of boasting", pot.need(2, 0), 1);
        due("17: the thigh", pot.need(0, 0), 10);
        due("17: just enough", pot.need(0, 1), 5);
        due("17: the heel, or a better one", pot.need(0, 2), 0);
        due("17: a child has the thigh, the last one there", pot.need(1, 0), 0);
        pot.deed(0, 0);
        due("17: against fear", pot.need(0, 2), 10);
        pot.scale(99, 1);
        due("17: 99 is the most", pot.need(0, 0), 89);
        repeat(pot, 5, 0, 0);
        due("17: beyond", pot.need(0, 2), NONE);
        due("17: a child alone with it has the heel", pot.need(1, 2), 0);
        due("17: never the thigh", pot.need(1, 0), NONE);
        due("17: nothing changes", pot.person(0, 2), 0);
        due("17: nobody", pot.need(3, 0), UNKNOWN);
        due("17: no joint", pot.need(0, 3), UNKNOWN);
        due("17: joint below", pot.need(0, -1), UNKNOWN);
        CowardsPot last = told("hall 2;scale 99 1;hero 0;hero 1");
        due("17: all of 99", last.need(0, 0), 99);
        CowardsPot tie = told("hall 2;scale 90 20;hero 0;hero 0;sort 20 0;sort 19 0");
        repeat(tie, 4, 0, 0);
        tie.deed(0, 1);
        due("17: 100 would be too much", tie.need(1, 0), NONE);
        due("17: beside him", tie.need(1, 1), 70);
        CowardsPot most = told("hall 2;scale 99 1;hero 0;hero 99;sort 20 0");
        repeat(most, 50, 0, 0);
        repeat(most, 50, 1, 0);
        due("17: gain is 999 at most", most.need(0, 0), NONE);
    }

    private static void promise18() {
        CowardsPot pot = told("hall 3;scale 30 10;hero 30;child 0;sort 20 5;sort 10 2;sort 10 3;sort 5 1;sort 0 0");
        int[][] due = {{2, 1, 1, NONE}, {1, 1, NONE, NONE}, {1, 4, NONE, NONE}};
        for (int joint = 0; joint < 3; joint++) {
            for (int k = NONE; k < 3; k++) {
                due("18: deeds(0, " + joint + ", " + k + ")", pot.deeds(0, joint, k), due[joint][k + 1]);
            }
        }
        due("18: none for the child", pot.deeds(1, 0, NONE), NONE);
        due("18: nor a first", pot.deeds(1, 0, 0), NONE);
        due("18: k above", pot.deeds(0, 0, 3), OUTSIDE);
        due("18: k below", pot.deeds(0, 0, -2), OUTSIDE);
        due("18: nobody", pot.deeds(2, 0, 0), UNKNOWN);
        due("18: no joint", pot.deeds(0, 3, 0), UNKNOWN);
        due("18: joint below", pot.deeds(0, -1, 0), UNKNOWN);
        due("18: unknown goes first", pot.deeds(0, 3, 3), UNKNOWN);
        due("18: nothing changes", pot.count(8), 0);
        CowardsPot few = told("hall 2;scale 30 10;hero 30;sort 10 2;sort 20 2;sort 10 1;sort 20 2");
        due("18: of like fear the fewest", few.deeds(0, 0, NONE), 1);
        due("18: and of these the first", few.deeds(0, 0, 0), 1);
        CowardsPot three = told("hall 2;scale 30 10;hero 30;sort 20 9;sort 10 5;sort 7 1;sort 6 1");
        int[] sevens = {3, 2, 2, 2};
        for (int k = NONE; k < 3; k++) {
            due("18: the least fear by three", three.deeds(0, 0, k), sevens[k + 1]);
        }
        CowardsPot calm = told("hall 2;scale 30 10;hero 30;sort 10 1;sort 20 5");
        due("18: less fear goes before fewer deeds", calm.deeds(0, 0, NONE), 2);
        due("18: of the first", calm.deeds(0, 0, 1), 0);
        CowardsPot none = told("hero 99");
        due("18: no sorts", none.deeds(0, 0, NONE), NONE);
        CowardsPot fear = told("hall 2;scale 10 5;hero 0;sort 10 11;sort 1 0");
        due("18: too much fear, but for a little more", fear.deeds(0, 0, NONE), 2);
        due("18: by sorts that do not fall", fear.deeds(0, 0, 0), 0);
        due("18: second", fear.deeds(0, 0, 1), 1);
    }

    private static void promise19And20() {
        CowardsPot pot = new CowardsPot();
        due("20: nothing", pot.forget(), 0);
        due("19: score below", pot.seen(-1, 0), OUTSIDE);
        due("19: score above", pot.seen(100, 0), OUTSIDE);
        due("19: no joint", pot.seen(9, 5), UNKNOWN);
        due("19: below none", pot.seen(9, -2), UNKNOWN);
        due("19: unknown goes first", pot.seen(100, 5), UNKNOWN);
        due("19: none", pot.seen(0, NONE), 1);
        for (int i = 2; i <= 6; i++) {
            due("19: seen", pot.seen(99, 0), i);
        }
        due("19: full", pot.seen(99, 0), FULL);
        due("19: outside goes before full", pot.seen(100, 0), OUTSIDE);
        due("20: forget", pot.forget(), 6);
        due("20: forgotten", pot.count(7), 0);
        due("20: anew", pot.seen(5, 4), 1);
    }

    private static void promise21() {
        CowardsPot pot = new CowardsPot();
        due("21: all", pot.scales(0), 2000);
        due("21: least base", pot.scales(1), 0);
        due("21: least step", pot.scales(2), 1);
        pot.seen(40, 0);
        pot.seen(39, 1);
        due("21: base 40, any step", pot.scales(0), 20);
        due("21: base", pot.scales(1), 40);
        pot.seen(32, 1);
        pot.seen(31, 2);
        due("21: step 8", pot.scales(0), 1);
        due("21: its base", pot.scales(1), 40);
        due("21: its step", pot.scales(2), 8);
        pot.seen(8, 4);
        pot.seen(7, NONE);
        due("21: so it is yet", pot.scales(0), 1);
        due("21: what above", pot.scales(3), OUTSIDE);
        due("21: what below", pot.scales(-1), OUTSIDE);
        pot.forget();
        pot.seen(50, 0);
        pot.seen(50, 1);
        due("21: none can be", pot.scales(0), 0);
        due("21: no base", pot.scales(1), NONE);
        due("21: no step", pot.scales(2), NONE);
        pot.forget();
        pot.seen(98, NONE);
        due("21: five joints reach too far", pot.scales(0), 0);
        CowardsPot two = told("hall 2");
        two.seen(97, NONE);
        due("21: two joints: base 99, step 1", two.scales(0), 1);
        due("21: of it the base", two.scales(1), 99);
    }

    private static void promise22() {
        CowardsPot pot = new CowardsPot();
        pot.seen(40, 0);
        pot.seen(39, 1);
        due("22: of 20 steps", pot.tells(), 8);
        pot.seen(32, 1);
        pot.seen(31, 2);
        due("22: one scale: any score, the least", pot.tells(), 0);
        pot.seen(31, 1);
        due("22: none", pot.tells(), NONE);
        due("22: nothing changes", pot.count(7), 5);
        due("22: of all scales, five joints", new CowardsPot().tells(), 28);
        due("22: two joints", told("hall 2").tells(), 44);
        CowardsPot nine = told("hall 9");
        due("22: nine joints", nine.tells(), 17);
        nine.seen(0, 8);
        due("22: the heel for nothing", nine.tells(), 51);
        nine.forget();
        nine.seen(30, 8);
        nine.seen(40, 7);
        due("22: by the first joint's bound", nine.tells(), 85);
        CowardsPot two = told("hall 2");
        two.seen(98, 0);
        two.seen(97, 1);
        due("22: ten of twenty", two.tells(), 87);
    }

    private static void promise23() {
        CowardsPot pot = told("hall 2;scale 20 5;hero 60;hero 57;hero 54;sort 2 0;sort 0 20");
        due("23: the second alone could pass him", pot.chance(0, 0, 0, 3, 0), 7);
        due("23: below", pot.chance(0, 0, 0, 3, 1), 10);
        due("23: the third could pass the second", pot.chance(1, 1, 0, 3, 0), 7);
        due("23: of ten", pot.chance(1, 1, 0, 3, 1), 10);
        due("23: the third passes nobody by idling", pot.chance(2, 1, 0, 3, 0), 0);
        due("23: unless the second is afraid", pot.chance(2, 1, 1, 4, 0), 2);
        due("23: four of ten in lowest terms", pot.chance(2, 1, 1, 4, 1), 5);
        due("23: half", pot.chance(0, 1, 0, 5, 0), 1);
        due("23: a half in lowest terms", pot.chance(0, 1, 0, 5, 1), 2);
        due("23: the second surely passes", pot.chance(0, 1, 0, 10, 0), 1);
        due("23: of one", pot.chance(0, 1, 0, 10, 1), 1);
        due("23: never", pot.chance(2, 0, 0, 0, 0), 0);
        due("23: of one", pot.chance(2, 0, 0, 0, 1), 1);
        due("23: surely", pot.chance(0, 0, 0, 0, 0), 1);
        due("23: surely, of one", pot.chance(0, 0, 0, 0, 1), 1);
        due("23: nobody", pot.chance(3, 0, 0, 0, 0), UNKNOWN);
        due("23: no joint", pot.chance(0, 2, 0, 0, 0), UNKNOWN);
        due("23: none is no joint", pot.chance(0, NONE, 0, 0, 0), UNKNOWN);
        due("23: no sort", pot.chance(0, 0, 2, 0, 0), UNKNOWN);
        due("23: sort below", pot.chance(0, 0, -1, 0, 0), UNKNOWN);
        due("23: q above", pot.chance(0, 0, 0, 11, 0), OUTSIDE);
        due("23: q below", pot.chance(0, 0, 0, -1, 0), OUTSIDE);
        due("23: part above", pot.chance(0, 0, 0, 0, 2), OUTSIDE);
        due("23: part below", pot.chance(0, 0, 0, 0, -1), OUTSIDE);
        due("23: unknown goes first", pot.chance(0, 0, 2, 11, 2), UNKNOWN);
        due("23: nothing changes", pot.person(1, 2), 0);
        CowardsPot first = told("hall 2;scale 10 5;hero 40;hero 30;sort 0 15");
        due("23: the first may be afraid", first.chance(1, 0, 0, 4, 0), 2);
        due("23: of five", first.chance(1, 0, 0, 4, 1), 5);
        CowardsPot six = told("hall 2;scale 0 1;hero 9;hero 6;hero 6;hero 6;hero 6;hero 6;sort 2 0");
        due("23: all five others idle, 9 of 10 each", six.chance(0, 0, 0, 1, 0), 59049);
        due("23: of so many", six.chance(0, 0, 0, 1, 1), 100000);
        CowardsPot alone = told("hall 2;scale 0 1;hero 3;sort 1 1");
        due("23: one alone", alone.chance(0, 0, 0, 7, 0), 1);
        due("23: of one", alone.chance(0, 0, 0, 7, 1), 1);
    }

    private static void promise24() {
        CowardsPot pot = told("hall 7;scale 33 4;hero 1;child 2;sort 1 2;sort 0 20;sort 1 1");
        pot.deed(1, 1);
        pot.year();
        pot.deed(1, 1);
        pot.seen(1, NONE);
        write(pot, "four");
        int[] due = {7, 2, 3, 1, 33, 4, 2, 1, 3, 4};
        for (int what = 0; what < due.length; what++) {
            due("24: count(" + what + ")", pot.count(what), due[what]);
        }
        due("24: above", pot.count(10), OUTSIDE);
        due("24: below", pot.count(-1), OUTSIDE);
        due("24: far", pot.count(MIN), OUTSIDE);
    }
}
