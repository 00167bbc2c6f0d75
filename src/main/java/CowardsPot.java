/**
 * A cauldron that serves each the joint he deserves, and nothing to one afraid.
 *
 * The promises that the comments name are those of the project's document, DOC.md.
 */
public final class CowardsPot {
    public static final int NONE = -1, UNKNOWN = -2, OUTSIDE = -3, NOT = -4, FULL = -5;

    private static final int FIRST_JOINTS = 5;
    private static final int FIRST_BASE = 40;
    private static final int FIRST_STEP = 8;
    private static final int MOST_JOINTS = 9;
    private static final int MOST_PEOPLE = 6;
    private static final int MOST_SORTS = 6;
    private static final int MOST_LETTER = 255;
    private static final int MOST_LETTERS = 160;
    private static final int MOST_CLAUSES = 14;
    private static final int MOST_BASE = 99;
    private static final int MOST_STEP = 20;
    private static final int MOST_FAME = 99;
    private static final int MOST_SCORE_SEEN = 99;
    private static final int MOST_SEEN = 6;
    private static final int MOST_NEED = 99;
    private static final int MOST_DEEDS = 3;
    private static final int MOST_EACH = 999;
    private static final int LAST_YEAR = 999;
    private static final int MOST_UNDONE = 8;
    private static final int KEPT_PLACES = 2;

    private static final int HERO = 0;
    private static final int BOASTER = 1;
    private static final int MODEST = 2;
    private static final int CHILD = 3;

    /** For each KIND, as they are over one another, the one above it: person, hero, boaster, modest, child. */
    private static final int[] ABOVE = {NONE, 0, 1, 1, 0};

    /** The words of clauses; those of people have the numbers of their kinds. */
    private static final int HALL = 4;
    private static final int SCALE = 5;
    private static final int SORT = 6;
    private static final int[] FIRST_LOW = {0, 0, 0, 0, 2, 0, 0};
    private static final int[] FIRST_HIGH = {99, 99, 99, 99, 9, 99, 20};
    private static final int[] SECOND_LOW = {0, 0, 0, 0, 0, 1, 0};
    /** NONE: the clause has no second number. */
    private static final int[] SECOND_HIGH = {NONE, NONE, NONE, NONE, NONE, 20, 20};

    private final Text text = new Text();
    private final Hall now = new Hall();
    private final Reader reader = new Reader();
    private final Past past = new Past();
    private final Kept[] kept = new Kept[KEPT_PLACES];
    private final Sightings sightings = new Sightings();
    private final Foretelling foretelling = new Foretelling();

    public CowardsPot() {
        for (int k = 0; k < KEPT_PLACES; k++) {
            kept[k] = new Kept();
        }
    }

    // ---- what is told

    public int write(int letter) {
        if (letter < 0 || letter > MOST_LETTER) {
            return OUTSIDE;
        }
        if (text.length >= MOST_LETTERS) {
            return FULL;
        }
        text.add(letter);
        return text.length;
    }

    public int erase() {
        int had = text.length;
        text.length = 0;
        return had;
    }

    public int fault() {
        return reader.read(text, now);
    }

    public int hall() {
        if (reader.read(text, now) != NONE) {
            return NOT;
        }
        now.copyFrom(reader.draft);
        now.beginAnew();
        text.length = 0;
        sightings.many = 0;
        past.many = 0;
        for (int k = 0; k < KEPT_PLACES; k++) {
            kept[k].isThere = false;
        }
        return reader.clauses;
    }

    public int person(int person, int what) {
        if (!isPerson(person)) {
            return UNKNOWN;
        }
        switch (what) {
            case 0:
                return now.kind[person];
            case 1:
                return now.fame[person];
            case 2:
                return now.gain[person];
            case 3:
                return now.fear[person];
            case 4:
                return now.scoreOf(person);
            case 5:
                return now.isAfraid(person) ? 1 : 0;
            case 6:
                return now.latest[person];
            case 7:
                return now.had[person];
            default:
                return OUTSIDE;
        }
    }

    public int sort(int sort, int what) {
        if (!isSort(sort)) {
            return UNKNOWN;
        }
        switch (what) {
            case 0:
                return now.sortGain[sort];
            case 1:
                return now.sortFear[sort];
            default:
                return OUTSIDE;
        }
    }

    public int as(int person, int kind) {
        if (!isPerson(person)) {
            return UNKNOWN;
        }
        if (kind < 0 || kind >= ABOVE.length) {
            return OUTSIDE;
        }
        // among the kinds over one another, the person stands first and moves the others by one
        if (!isKindUnder(now.kind[person] + 1, kind)) {
            return NOT;
        }
        return now.fameAfterYear(person) - now.fame[person];
    }

    // ---- what is done

    public int deed(int person, int sort) {
        if (!isPerson(person) || !isSort(sort)) {
            return UNKNOWN;
        }
        past.push(now);
        now.addDeed(person, sort);
        return now.scoreOf(person);
    }

    public int feast() {
        if (now.people == 0) {
            return NOT;
        }
        past.push(now);
        return now.holdFeast();
    }

    public int year() {
        if (now.yearNumber >= LAST_YEAR) {
            return FULL;
        }
        past.push(now);
        now.passYear();
        return now.yearNumber;
    }

    public int scale(int base, int step) {
        if (base < 0 || base > MOST_BASE || step < 1 || step > MOST_STEP) {
            return OUTSIDE;
        }
        past.push(now);
        int was = now.base;
        now.base = base;
        now.step = step;
        return was;
    }

    public int undo() {
        if (past.many == 0) {
            return NOT;
        }
        past.popInto(now);
        return past.many;
    }

    public int keep(int k) {
        if (!isKeptPlace(k)) {
            return UNKNOWN;
        }
        kept[k].hall.copyFrom(now);
        kept[k].text.copyFrom(text);
        kept[k].isThere = true;
        return now.yearNumber;
    }

    public int back(int k) {
        if (!isKeptPlace(k)) {
            return UNKNOWN;
        }
        if (!kept[k].isThere) {
            return NOT;
        }
        now.copyFrom(kept[k].hall);
        text.copyFrom(kept[k].text);
        past.many = 0;
        return now.yearNumber;
    }

    // ---- foretold

    public int gets(int person) {
        if (!isPerson(person)) {
            return UNKNOWN;
        }
        return foretelling.jointOf(now, person);
    }

    public int need(int person, int joint) {
        if (!isPerson(person) || !isJoint(joint)) {
            return UNKNOWN;
        }
        return foretelling.leastGain(now, person, joint);
    }

    public int deeds(int person, int joint, int k) {
        if (!isPerson(person) || !isJoint(joint)) {
            return UNKNOWN;
        }
        if (k < NONE || k >= MOST_DEEDS) {
            return OUTSIDE;
        }
        foretelling.chooseDeeds(now, person, joint);
        if (k == NONE) {
            return foretelling.chosenMany;
        }
        return k < foretelling.chosenMany ? foretelling.chosen[k] : NONE;
    }

    // ---- what was seen

    public int seen(int score, int joint) {
        if (joint != NONE && !isJoint(joint)) {
            return UNKNOWN;
        }
        if (score < 0 || score > MOST_SCORE_SEEN) {
            return OUTSIDE;
        }
        if (sightings.many >= MOST_SEEN) {
            return FULL;
        }
        sightings.add(score, joint);
        return sightings.many;
    }

    public int forget() {
        int had = sightings.many;
        sightings.many = 0;
        return had;
    }

    public int scales(int what) {
        if (what < 0 || what > 2) {
            return OUTSIDE;
        }
        sightings.findScales(now.joints);
        switch (what) {
            case 0:
                return sightings.scalesFound;
            case 1:
                return sightings.leastBase;
            default:
                return sightings.leastStep;
        }
    }

    public int tells() {
        return sightings.mostTelling(now.joints);
    }

    public int chance(int person, int joint, int sort, int q, int part) {
        if (!isPerson(person) || !isJoint(joint) || !isSort(sort)) {
            return UNKNOWN;
        }
        if (q < 0 || q > 10 || part < 0 || part > 1) {
            return OUTSIDE;
        }
        int above = foretelling.waysOfTen(now, person, joint, sort, q);
        int below = power(10, now.people - 1);
        int common = commonDivisor(above, below);
        if (common == 0) {
            return OUTSIDE;
        }
        return (part == 0 ? above : below) / common;
    }

    public int count(int what) {
        switch (what) {
            case 0:
                return now.joints;
            case 1:
                return now.people;
            case 2:
                return now.sorts;
            case 3:
                return now.yearNumber;
            case 4:
                return now.base;
            case 5:
                return now.step;
            case 6:
                return now.afraidBits();
            case 7:
                return sightings.many;
            case 8:
                return past.many;
            case 9:
                return text.length;
            default:
                return OUTSIDE;
        }
    }

    private boolean isPerson(int number) {
        return number >= 0 && number < now.people;
    }

    private boolean isJoint(int number) {
        return number >= 0 && number < now.joints;
    }

    private boolean isSort(int number) {
        return number >= 0 && number < now.sorts;
    }

    private static boolean isKeptPlace(int k) {
        return k >= 0 && k < KEPT_PLACES;
    }

    private static boolean isKindUnder(int own, int kind) {
        int level = own;
        for (int climbed = 0; climbed < ABOVE.length; climbed++) {
            if (level == kind) {
                return true;
            }
            if (level < 0 || level >= ABOVE.length) {
                return false;
            }
            level = ABOVE[level];
        }
        return false;
    }

    /** The first of the joints that is for a score when all of them are there. */
    private static int jointFor(int score, int base, int step, int joints) {
        for (int k = 0; k < joints; k++) {
            if (score >= base - k * step) {
                return k;
            }
        }
        return NONE;
    }

    private static int power(int of, int times) {
        int product = 1;
        for (int i = 0; i < times; i++) {
            product *= of;
        }
        return product;
    }

    private static int commonDivisor(int one, int other) {
        int greater = one;
        int lesser = other;
        for (int turn = 0; turn < 64 && lesser != 0; turn++) {
            int rest = greater % lesser;
            greater = lesser;
            lesser = rest;
        }
        return greater;
    }

    /** THE TEXT. */
    private static final class Text {
        final int[] letters = new int[MOST_LETTERS];
        int length = 0;

        void add(int letter) {
            if (length < MOST_LETTERS) {
                letters[length] = letter;
                length++;
            }
        }

        /** The letter at a place; NONE behind the last one. */
        int at(int place) {
            return place >= 0 && place < length ? letters[place] : NONE;
        }

        void copyFrom(Text other) {
            length = other.length;
            System.arraycopy(other.letters, 0, letters, 0, MOST_LETTERS);
        }
    }

    /** All that texts tell and that calls do: joints, scale, sorts, people, the year. */
    private static final class Hall {
        int joints = FIRST_JOINTS;
        int base = FIRST_BASE;
        int step = FIRST_STEP;
        int yearNumber = 0;
        int people = 0;
        int sorts = 0;
        final int[] kind = new int[MOST_PEOPLE];
        final int[] toldFame = new int[MOST_PEOPLE];
        final int[] fame = new int[MOST_PEOPLE];
        final int[] gain = new int[MOST_PEOPLE];
        final int[] fear = new int[MOST_PEOPLE];
        final int[] latest = new int[MOST_PEOPLE];
        final int[] had = new int[MOST_PEOPLE];
        final int[] sortGain = new int[MOST_SORTS];
        final int[] sortFear = new int[MOST_SORTS];
        /** Scores while a feast is served; no part of what is copied. */
        private final int[] scores = new int[MOST_PEOPLE];

        void copyFrom(Hall other) {
            joints = other.joints;
            base = other.base;
            step = other.step;
            yearNumber = other.yearNumber;
            people = other.people;
            sorts = other.sorts;
            for (int i = 0; i < MOST_PEOPLE; i++) {
                kind[i] = other.kind[i];
                toldFame[i] = other.toldFame[i];
                fame[i] = other.fame[i];
                gain[i] = other.gain[i];
                fear[i] = other.fear[i];
                latest[i] = other.latest[i];
                had[i] = other.had[i];
            }
            for (int i = 0; i < MOST_SORTS; i++) {
                sortGain[i] = other.sortGain[i];
                sortFear[i] = other.sortFear[i];
            }
        }

        /** All as at first, but for the number of joints. */
        void clearFor(int ofJoints) {
            joints = ofJoints;
            base = FIRST_BASE;
            step = FIRST_STEP;
            yearNumber = 0;
            people = 0;
            sorts = 0;
        }

        void addPerson(int ofKind, int ofFame) {
            if (people < MOST_PEOPLE) {
                kind[people] = ofKind;
                toldFame[people] = ofFame;
                people++;
            }
        }

        void addSort(int ofGain, int ofFear) {
            if (sorts < MOST_SORTS) {
                sortGain[sorts] = ofGain;
                sortFear[sorts] = ofFear;
                sorts++;
            }
        }

        /** How things stand behind a text: what was told stays, what was done since is gone. */
        void beginAnew() {
            yearNumber = 0;
            for (int i = 0; i < people; i++) {
                fame[i] = toldFame[i];
                gain[i] = 0;
                fear[i] = 0;
                latest[i] = NONE;
                had[i] = 0;
            }
        }

        int scoreOf(int person) {
            if (kind[person] == CHILD) {
                return gain[person] < 10 ? gain[person] : 10;
            }
            int asHero = gain[person] + fame[person] / 3;
            if (kind[person] == BOASTER && gain[person] > 0) {
                return asHero + 5;
            }
            if (kind[person] == MODEST) {
                return asHero - asHero / 4;
            }
            return asHero;
        }

        boolean isAfraid(int person) {
            return fear[person] > scoreOf(person);
        }

        int afraidBits() {
            int bits = 0;
            for (int i = 0; i < people; i++) {
                if (isAfraid(i)) {
                    bits |= 1 << i;
                }
            }
            return bits;
        }

        void addTo(int person, int moreGain, int moreFear) {
            gain[person] = Math.min(MOST_EACH, gain[person] + moreGain);
            fear[person] = Math.min(MOST_EACH, fear[person] + moreFear);
        }

        void addDeed(int person, int ofSort) {
            addTo(person, sortGain[ofSort], sortFear[ofSort]);
        }

        int fameAfterYear(int person) {
            int more = gain[person] / (kind[person] == BOASTER ? 4 : 2);
            return Math.min(MOST_FAME, fame[person] + more);
        }

        void passYear() {
            for (int i = 0; i < people; i++) {
                fame[i] = fameAfterYear(i);
                gain[i] = 0;
                fear[i] = 0;
            }
            yearNumber++;
        }

        /** Who has a joint, as bits. */
        int holdFeast() {
            serveInto(latest);
            int bits = 0;
            for (int i = 0; i < people; i++) {
                if (latest[i] != NONE) {
                    had[i]++;
                    bits |= 1 << i;
                }
            }
            return bits;
        }

        /** Puts into a row of MOST_PEOPLE, for each of the people, the joint that a feast now gives. */
        void serveInto(int[] served) {
            int waiting = 0;
            for (int i = 0; i < people; i++) {
                served[i] = NONE;
                scores[i] = scoreOf(i);
                if (fear[i] <= scores[i]) {
                    waiting |= 1 << i;
                }
            }
            int left = (1 << joints) - 1;
            for (int turn = 0; turn < people && waiting != 0; turn++) {
                int person = nextOf(waiting);
                waiting &= ~(1 << person);
                int joint = kind[person] == CHILD ? lastOf(left) : firstFor(scores[person], left);
                served[person] = joint;
                if (joint != NONE) {
                    left &= ~(1 << joint);
                }
            }
        }

        /** Of those who wait (bits), the one of the greatest score, of like ones the first. */
        private int nextOf(int waiting) {
            int next = 0;
            int greatest = NONE;
            for (int i = 0; i < people; i++) {
                if ((waiting >> i & 1) == 1 && scores[i] > greatest) {
                    next = i;
                    greatest = scores[i];
                }
            }
            return next;
        }

        private int lastOf(int left) {
            for (int k = joints - 1; k >= 0; k--) {
                if ((left >> k & 1) == 1) {
                    return k;
                }
            }
            return NONE;
        }

        private int firstFor(int score, int left) {
            for (int k = 0; k < joints; k++) {
                if ((left >> k & 1) == 1 && score >= base - k * step) {
                    return k;
                }
            }
            return NONE;
        }
    }

    /** Reads a text to its first fault, and does its clauses on a draft as it goes. */
    private static final class Reader {
        final Hall draft = new Hall();
        int clauses = 0;
        private int begin = 0;
        private int behind = 0;
        private int value = 0;

        /** The place of the fault; NONE, and then the draft is the hall with all clauses done. */
        int read(Text text, Hall hall) {
            draft.copyFrom(hall);
            clauses = 0;
            behind = 0;
            goOn(text);
            for (int i = 0; i < MOST_CLAUSES; i++) {
                if (!isClauseRead(text)) {
                    return begin;
                }
                clauses++;
                if (begin >= text.length) {
                    return NONE;
                }
                // behind the last clause that there can be, not even a ; can stand
                if (text.at(begin) != ';' || clauses >= MOST_CLAUSES) {
                    return begin;
                }
                goOn(text);
            }
            return begin;
        }

        /** Finds the next token; behind the last one, the token is empty and at the text's length. */
        private void goOn(Text text) {
            begin = behind;
            while (begin < text.length && text.at(begin) == ' ') {
                begin++;
            }
            behind = begin;
            if (isSmallLetter(text.at(begin))) {
                while (behind < text.length && isSmallLetter(text.at(behind))) {
                    behind++;
                }
            } else if (isDigit(text.at(begin))) {
                while (behind < text.length && isDigit(text.at(behind))) {
                    behind++;
                }
            } else if (begin < text.length) {
                behind++;
            }
        }

        private static boolean isSmallLetter(int letter) {
            return letter >= 'a' && letter <= 'z';
        }

        private static boolean isDigit(int letter) {
            return letter >= '0' && letter <= '9';
        }

        /** Reads a clause and does it on the draft; if it has a fault, that is the token it stops at. */
        private boolean isClauseRead(Text text) {
            int word = wordNumber(text);
            if (word == NONE || !hasRoomFor(word)) {
                return false;
            }
            goOn(text);
            if (!isNumberRead(text, FIRST_LOW[word], FIRST_HIGH[word])) {
                return false;
            }
            int first = value;
            goOn(text);
            if (SECOND_HIGH[word] != NONE) {
                if (!isNumberRead(text, SECOND_LOW[word], SECOND_HIGH[word])) {
                    return false;
                }
                goOn(text);
            }
            tell(word, first, value);
            return true;
        }

        private int wordNumber(Text text) {
            if (isWord(text, "hero")) {
                return HERO;
            }
            if (isWord(text, "boaster")) {
                return BOASTER;
            }
            if (isWord(text, "modest")) {
                return MODEST;
            }
            if (isWord(text, "child")) {
                return CHILD;
            }
            if (isWord(text, "hall")) {
                return HALL;
            }
            if (isWord(text, "scale")) {
                return SCALE;
            }
            return isWord(text, "sort") ? SORT : NONE;
        }

        private boolean isWord(Text text, String word) {
            if (behind - begin != word.length()) {
                return false;
            }
            for (int i = 0; i < word.length(); i++) {
                if (text.at(begin + i) != word.charAt(i)) {
                    return false;
                }
            }
            return true;
        }

        private boolean hasRoomFor(int word) {
            if (word <= CHILD) {
                return draft.people < MOST_PEOPLE;
            }
            return word != SORT || draft.sorts < MOST_SORTS;
        }

        private boolean isNumberRead(Text text, int low, int high) {
            int digits = behind - begin;
            if (!isDigit(text.at(begin)) || digits > 2) {
                return false;
            }
            int number = 0;
            for (int i = begin; i < behind; i++) {
                number = number * 10 + (text.at(i) - '0');
            }
            value = number;
            return number >= low && number <= high;
        }

        private void tell(int word, int first, int second) {
            switch (word) {
                case HALL:
                    draft.clearFor(first);
                    break;
                case SCALE:
                    draft.base = first;
                    draft.step = second;
                    break;
                case SORT:
                    draft.addSort(first, second);
                    break;
                default:
                    draft.addPerson(word, first);
                    break;
            }
        }
    }

    /** The halls before the latest calls, a ring in which the oldest gives way. */
    private static final class Past {
        private final Hall[] halls = new Hall[MOST_UNDONE];
        private int top = 0;
        int many = 0;

        Past() {
            for (int i = 0; i < MOST_UNDONE; i++) {
                halls[i] = new Hall();
            }
        }

        void push(Hall hall) {
            halls[top].copyFrom(hall);
            top = top + 1 < MOST_UNDONE ? top + 1 : 0;
            many = Math.min(MOST_UNDONE, many + 1);
        }

        void popInto(Hall hall) {
            if (many > 0) {
                top = top > 0 ? top - 1 : MOST_UNDONE - 1;
                hall.copyFrom(halls[top]);
                many--;
            }
        }
    }

    /** A place for keep() and back(). */
    private static final class Kept {
        final Hall hall = new Hall();
        final Text text = new Text();
        boolean isThere = false;
    }

    /** What a feast would give, tried on a hall of its own. */
    private static final class Foretelling {
        private final Hall trial = new Hall();
        private final int[] served = new int[MOST_PEOPLE];
        private final int[] tried = new int[MOST_DEEDS];
        final int[] chosen = new int[MOST_DEEDS];
        int chosenMany = NONE;
        private int chosenFear = 0;

        int jointOf(Hall hall, int person) {
            hall.serveInto(served);
            return served[person];
        }

        int leastGain(Hall hall, int person, int joint) {
            for (int more = 0; more <= MOST_NEED; more++) {
                trial.copyFrom(hall);
                trial.addTo(person, more, 0);
                int got = jointOf(trial, person);
                if (got != NONE && got <= joint) {
                    return more;
                }
            }
            return NONE;
        }

        /** Chooses the deeds for a joint: chosenMany of them (NONE: there are none such), in chosen. */
        void chooseDeeds(Hall hall, int person, int joint) {
            chosenMany = NONE;
            for (int a = 0; a < hall.sorts; a++) {
                tried[0] = a;
                weigh(hall, person, joint, 1);
                for (int b = a; b < hall.sorts; b++) {
                    tried[1] = b;
                    weigh(hall, person, joint, 2);
                    for (int c = b; c < hall.sorts; c++) {
                        tried[2] = c;
                        weigh(hall, person, joint, 3);
                    }
                }
            }
        }

        /** Rows of one length come in their order, so that a later one is chosen only if it is better. */
        private void weigh(Hall hall, int person, int joint, int many) {
            int fear = 0;
            trial.copyFrom(hall);
            for (int i = 0; i < many && i < MOST_DEEDS; i++) {
                fear += hall.sortFear[tried[i]];
                trial.addDeed(person, tried[i]);
            }
            boolean isBetter = chosenMany == NONE || fear < chosenFear
                || fear == chosenFear && many < chosenMany;
            if (isBetter && jointOf(trial, person) == joint) {
                chosenMany = many;
                chosenFear = fear;
                for (int i = 0; i < MOST_DEEDS; i++) {
                    chosen[i] = tried[i];
                }
            }
        }

        /** Of the ways in which each other one may draw one of ten lots, how many bring one the joint. */
        int waysOfTen(Hall hall, int person, int joint, int sort, int q) {
            int ways = 0;
            for (int doers = 0; doers < 1 << hall.people; doers++) {
                if ((doers >> person & 1) == 0) {
                    tryDoers(hall, sort, doers);
                    if (jointOf(trial, person) == joint) {
                        int doing = Integer.bitCount(doers);
                        int idle = hall.people - 1 - doing;
                        ways += power(q, doing) * power(10 - q, idle);
                    }
                }
            }
            return ways;
        }

        /** The trial is the hall, once each of the doers (bits) has done a deed of a sort. */
        private void tryDoers(Hall hall, int sort, int doers) {
            trial.copyFrom(hall);
            for (int i = 0; i < hall.people; i++) {
                if ((doers >> i & 1) == 1) {
                    trial.addDeed(i, sort);
                }
            }
        }
    }

    /** What is SEEN, and what it says of the scale. */
    private static final class Sightings {
        private final int[] scores = new int[MOST_SEEN];
        private final int[] jointsHad = new int[MOST_SEEN];
        int many = 0;
        int scalesFound = 0;
        int leastBase = NONE;
        int leastStep = NONE;
        /** For each joint and score, how many scales have the joint's bound just there. */
        private final int[][] bounds = new int[MOST_JOINTS][MOST_SCORE_SEEN + 1];
        /** For each joint, how many scales have its bound at the score in hand or below. */
        private final int[] reached = new int[MOST_JOINTS];

        void add(int score, int joint) {
            if (many < MOST_SEEN) {
                scores[many] = score;
                jointsHad[many] = joint;
                many++;
            }
        }

        private boolean isSo(int base, int step, int joints) {
            for (int i = 0; i < many; i++) {
                if (jointFor(scores[i], base, step, joints) != jointsHad[i]) {
                    return false;
                }
            }
            return true;
        }

        /** Counts the scales that there can be, notes the least, and where their bounds are. */
        void findScales(int joints) {
            clearScales();
            for (int base = 0; base <= MOST_BASE; base++) {
                for (int step = 1; step <= MOST_STEP; step++) {
                    if (isSo(base, step, joints)) {
                        noteScale(base, step, joints);
                    }
                }
            }
        }

        private void clearScales() {
            scalesFound = 0;
            leastBase = NONE;
            leastStep = NONE;
            for (int k = 0; k < MOST_JOINTS; k++) {
                reached[k] = 0;
                for (int score = 0; score <= MOST_SCORE_SEEN; score++) {
                    bounds[k][score] = 0;
                }
            }
        }

        private void noteScale(int base, int step, int joints) {
            if (scalesFound == 0) {
                leastBase = base;
                leastStep = step;
            }
            scalesFound++;
            for (int k = 0; k < joints && k < MOST_JOINTS; k++) {
                bounds[k][Math.max(0, base - k * step)]++;
            }
        }

        /** TELLS: the score by which the most scales of one answer are fewest. */
        int mostTelling(int joints) {
            findScales(joints);
            int telling = NONE;
            int fewest = scalesFound + 1;
            for (int score = 0; score <= MOST_SCORE_SEEN && scalesFound > 0; score++) {
                int most = mostAlike(score, joints);
                if (most < fewest) {
                    fewest = most;
                    telling = score;
                }
            }
            return telling;
        }

        /**
         * Of the scales found, how many give the commonest answer (a joint, or none) to a score.
         * It is asked for all scores in their order, from 0.
         */
        private int mostAlike(int score, int joints) {
            int most = 0;
            int before = 0;
            for (int k = 0; k < joints && k < MOST_JOINTS; k++) {
                reached[k] += bounds[k][score];
                most = Math.max(most, reached[k] - before);
                before = reached[k];
            }
            return Math.max(most, scalesFound - before);
        }
    }
}
