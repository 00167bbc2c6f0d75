import java.math.BigInteger;
import java.util.ArrayDeque;
import java.util.ArrayList;
import java.util.Arrays;
import java.util.Collections;
import java.util.Comparator;
import java.util.HashMap;
import java.util.List;
import java.util.Map;
import java.util.Random;
import java.util.TreeSet;
import java.util.regex.Matcher;
import java.util.regex.Pattern;

/** Random runs of calls: each answer of the class against that of a plain second telling of the document. */
public final class ModelTest {
    private static final int NONE = -1, UNKNOWN = -2, OUTSIDE = -3, NOT = -4, FULL = -5;
    private static final int RUNS = 3000;
    private static final int CALLS = 512;
    private static final int[] FAR = {Integer.MIN_VALUE, -1000000, -7, 7, 100, 1000, 65536, Integer.MAX_VALUE};
    private static final String[] WORDS = {"hero", "boaster", "modest", "child", "hall", "scale", "sort"};
    private static final String[] NAMES = {"write", "erase", "fault", "hall", "person", "sort", "as", "deed", "feast",
        "year", "scale", "undo", "keep", "back", "gets", "need", "deeds", "seen", "forget", "scales", "tells",
        "chance", "count"};
    private static final int[] ARGUMENTS = {1, 0, 0, 0, 2, 2, 2, 2, 0, 0, 2, 0, 1, 1, 1, 2, 3, 2, 0, 1, 0, 5, 1};
    /** How often each call comes, but for those that a text makes. */
    private static final int[] WEIGHTS = {3, 1, 2, 1, 12, 3, 5, 22, 10, 5, 5, 7, 4, 4, 6, 6, 5, 5, 1, 3, 1, 5, 6};

    private final Random random;
    private final CowardsPot pot = new CowardsPot();
    private final Model model = new Model();
    private final List<String> calls = new ArrayList<>();
    private boolean isWrong = false;

    private ModelTest(long seed) {
        random = new Random(seed);
    }

    public static void main(String[] args) {
        int wrong = 0;
        Map<String, Integer> answers = new HashMap<>();
        for (int run = 0; run < RUNS && wrong < 5; run++) {
            ModelTest test = new ModelTest(run);
            test.run(answers);
            if (test.isWrong) {
                wrong++;
                System.out.println("run " + run + ":");
                int from = Math.max(0, test.calls.size() - 40);
                System.out.println("  " + String.join("\n  ", test.calls.subList(from, test.calls.size())));
            }
        }
        wrong += isCovered(answers) ? 0 : 1;
        System.out.println(RUNS + " random runs, " + wrong + " wrong");
        if (wrong != 0) {
            System.exit(1);
        }
    }

    /** A run that never brings a refusal, or never anything else, tests nothing. */
    private static boolean isCovered(Map<String, Integer> answers) {
        String[] due = {"write -3", "write -5", "write +", "erase +", "fault -1", "fault +", "hall -4", "hall +",
            "person -1", "person -2", "person -3", "person +", "sort -2", "sort -3", "sort +", "as -2", "as -3", "as -4",
            "as +", "deed -2", "deed +", "feast -4", "feast +", "year +", "scale -3", "scale +", "undo -4", "undo +",
            "keep -2", "keep +", "back -2", "back -4", "back +", "gets -1", "gets -2", "gets +", "need -1", "need -2",
            "need +", "deeds -1", "deeds -2", "deeds -3", "deeds +", "seen -2", "seen -3", "seen -5", "seen +", "forget +",
            "scales -1", "scales -3", "scales +", "tells -1", "tells +", "chance -2", "chance -3", "chance +",
            "count -3", "count +"};
        boolean isAll = true;
        for (String each : due) {
            if (answers.getOrDefault(each, 0) < 20) {
                isAll = false;
                System.out.println("too few answers of " + each + ": " + answers.getOrDefault(each, 0));
            }
        }
        return isAll;
    }

    private void run(Map<String, Integer> answers) {
        for (int i = 0; i < CALLS && !isWrong; ) {
            if (i == 0 ? random.nextInt(20) > 0 : random.nextInt(120) == 0) {
                String text = random.nextInt(6) == 0 ? fullText() : anyText();
                for (int at = 0; at < text.length() && i < CALLS && !isWrong; at++, i++) {
                    call(answers, 0, text.charAt(at), 0, 0, 0, 0);
                }
                call(answers, 2, 0, 0, 0, 0, 0);
                call(answers, 3, 0, 0, 0, 0, 0);
                if (random.nextInt(4) > 0) {
                    call(answers, 1, 0, 0, 0, 0, 0);
                }
                i += 3;
            } else {
                anyCall(answers);
                i++;
            }
        }
    }

    private void anyCall(Map<String, Integer> answers) {
        int pick = random.nextInt(Arrays.stream(WEIGHTS).sum());
        int name = 0;
        while (pick >= WEIGHTS[name]) {
            pick -= WEIGHTS[name];
            name++;
        }
        switch (NAMES[name]) {
            case "write" -> call(answers, name, random.nextInt(8) == 0 ? upTo(256) : anyLetter(), 0, 0, 0, 0);
            case "person" -> call(answers, name, person(), upTo(8), 0, 0, 0);
            case "sort" -> call(answers, name, sort(), upTo(2), 0, 0, 0);
            case "as" -> call(answers, name, person(), upTo(5), 0, 0, 0);
            case "deed" -> call(answers, name, person(), sort(), 0, 0, 0);
            case "scale" -> call(answers, name, upTo(random.nextBoolean() ? 30 : 100), 1 + upTo(20), 0, 0, 0);
            case "keep", "back" -> call(answers, name, upTo(2), 0, 0, 0, 0);
            case "gets" -> call(answers, name, person(), 0, 0, 0, 0);
            case "need" -> call(answers, name, person(), joint(), 0, 0, 0);
            case "deeds" -> call(answers, name, person(), joint(), upTo(4) - 1, 0, 0);
            case "seen" -> anySight(answers, name);
            case "scales" -> call(answers, name, upTo(3), 0, 0, 0, 0);
            case "chance" -> call(answers, name, person(), joint(), sort(), upTo(11), upTo(2));
            case "count" -> call(answers, name, upTo(10), 0, 0, 0, 0);
            default -> call(answers, name, 0, 0, 0, 0, 0);
        }
    }

    /** Mostly what the scale now would show, so that more than one sight can be so together. */
    private void anySight(Map<String, Integer> answers, int name) {
        int score = upTo(100);
        boolean isTrue = score >= 0 && random.nextInt(8) > 0;
        call(answers, name, score, isTrue ? model.jointBy(score, model.base, model.step) : joint(), 0, 0, 0);
    }

    /** Mostly 0 .. n less 1; now and then one beside that, or far. */
    private int upTo(int n) {
        int kind = random.nextInt(60);
        if (kind == 0) {
            return -1;
        }
        if (kind == 1) {
            return n;
        }
        return kind == 2 ? FAR[random.nextInt(FAR.length)] : random.nextInt(n);
    }

    private int person() {
        return upTo(Math.max(1, model.people.size()));
    }

    private int sort() {
        return upTo(Math.max(1, model.sorts.size()));
    }

    private int joint() {
        return upTo(model.joints);
    }

    private int anyLetter() {
        String some = "halscero;; 0123459 ";
        return some.charAt(random.nextInt(some.length()));
    }

    private String number(int low, int high) {
        int kind = random.nextInt(80);
        if (kind == 0) {
            return String.valueOf(random.nextInt(130));
        }
        int number = low + random.nextInt(high - low + 1);
        return kind == 1 ? "0" + number : String.valueOf(number);
    }

    private String clause(int word) {
        StringBuilder clause = new StringBuilder(WORDS[word]);
        clause.append(random.nextInt(30) == 0 ? "" : random.nextInt(10) == 0 ? "  " : " ");
        switch (word) {
            case 4 -> clause.append(number(2, 9));
            case 5 -> clause.append(number(0, random.nextBoolean() ? 40 : 99)).append(' ').append(number(1, 20));
            case 6 -> clause.append(number(0, 20)).append(' ').append(number(0, random.nextBoolean() ? 6 : 20));
            default -> clause.append(number(0, 99));
        }
        return clause.toString();
    }

    private String anyText() {
        StringBuilder text = new StringBuilder();
        int many = 1 + random.nextInt(random.nextInt(8) == 0 ? 16 : 9);
        for (int i = 0; i < many; i++) {
            text.append(i == 0 ? "" : random.nextInt(10) == 0 ? " ; " : ";").append(clause(random.nextInt(7)));
        }
        if (random.nextInt(4) == 0) {
            text.setCharAt(random.nextInt(text.length()), (char) anyLetter());
        }
        return text.toString();
    }

    /** One after which people, sorts and scale are there, so that much can be done. */
    private String fullText() {
        StringBuilder text = new StringBuilder("hall ").append(2 + random.nextInt(8));
        text.append(";").append(clause(5));
        int people = 2 + random.nextInt(5);
        for (int i = 0; i < people; i++) {
            text.append(";").append(clause(random.nextInt(4)));
        }
        int sorts = 1 + random.nextInt(6);
        for (int i = 0; i < sorts; i++) {
            text.append(";").append(clause(6));
        }
        return text.toString();
    }

    private void call(Map<String, Integer> answers, int name, int a, int b, int c, int d, int e) {
        int[] all = {a, b, c, d, e};
        StringBuilder shown = new StringBuilder(NAMES[name]).append("(");
        for (int i = 0; i < ARGUMENTS[name]; i++) {
            shown.append(i == 0 ? "" : ", ").append(all[i]);
        }
        int due = model.answer(NAMES[name], a, b, c, d, e);
        int got;
        try {
            got = ofPot(NAMES[name], a, b, c, d, e);
        } catch (RuntimeException thrown) {
            calls.add(shown + ") threw " + thrown);
            isWrong = true;
            return;
        }
        answers.merge(NAMES[name] + " " + (got < 0 ? String.valueOf(got) : "+"), 1, Integer::sum);
        calls.add(shown + ") answered " + got + (got == due ? "" : ", due is " + due));
        isWrong |= got != due;
    }

    private int ofPot(String name, int a, int b, int c, int d, int e) {
        return switch (name) {
            case "write" -> pot.write(a);
            case "erase" -> pot.erase();
            case "fault" -> pot.fault();
            case "hall" -> pot.hall();
            case "person" -> pot.person(a, b);
            case "sort" -> pot.sort(a, b);
            case "as" -> pot.as(a, b);
            case "deed" -> pot.deed(a, b);
            case "feast" -> pot.feast();
            case "year" -> pot.year();
            case "scale" -> pot.scale(a, b);
            case "undo" -> pot.undo();
            case "keep" -> pot.keep(a);
            case "back" -> pot.back(a);
            case "gets" -> pot.gets(a);
            case "need" -> pot.need(a, b);
            case "deeds" -> pot.deeds(a, b, c);
            case "seen" -> pot.seen(a, b);
            case "forget" -> pot.forget();
            case "scales" -> pot.scales(a);
            case "tells" -> pot.tells();
            case "chance" -> pot.chance(a, b, c, d, e);
            default -> pot.count(a);
        };
    }

    /** A kind, with its place in the order of kinds; a subclass is under its class. */
    private static class Person {
        int number;
        int told;
        int fame;
        int gain;
        int fear;
        int latest = NONE;
        int had;

        int kind() {
            return NONE;
        }

        int score() {
            return 0;
        }

        int share() {
            return gain / 2;
        }

        Person fresh() {
            return new Person();
        }

        final Person copy() {
            Person other = fresh();
            other.number = number;
            other.told = told;
            other.fame = fame;
            other.gain = gain;
            other.fear = fear;
            other.latest = latest;
            other.had = had;
            return other;
        }

        final int fameByYear() {
            return Math.min(99, fame + share());
        }

        final void add(int moreGain, int moreFear) {
            gain = Math.min(999, gain + moreGain);
            fear = Math.min(999, fear + moreFear);
        }
    }

    private static class Hero extends Person {
        @Override int kind() {
            return 0;
        }

        @Override int score() {
            return gain + fame / 3;
        }

        @Override Person fresh() {
            return new Hero();
        }
    }

    private static final class Boaster extends Hero {
        @Override int kind() {
            return 1;
        }

        @Override int score() {
            return super.score() + (gain == 0 ? 0 : 5);
        }

        @Override int share() {
            return gain / 4;
        }

        @Override Person fresh() {
            return new Boaster();
        }
    }

    private static final class Modest extends Hero {
        @Override int kind() {
            return 2;
        }

        @Override int score() {
            return super.score() - super.score() / 4;
        }

        @Override Person fresh() {
            return new Modest();
        }
    }

    private static final class Child extends Person {
        @Override int kind() {
            return 3;
        }

        @Override int score() {
            return Math.min(10, gain);
        }

        @Override Person fresh() {
            return new Child();
        }
    }

    private static final class Model {
        private static final Class<?>[] KINDS = {Person.class, Hero.class, Boaster.class, Modest.class, Child.class};
        private static final Pattern TOKEN = Pattern.compile("[a-z]+|[0-9]+|[^ ]", Pattern.DOTALL);
        int joints = 5;
        int base = 40;
        int step = 8;
        int year = 0;
        String text = "";
        List<Person> people = new ArrayList<>();
        List<int[]> sorts = new ArrayList<>();
        private List<int[]> seen = new ArrayList<>();
        private ArrayDeque<Model> past = new ArrayDeque<>();
        private final Model[] kept = new Model[2];

        /** All as it is, but SEEN and what can be undone. */
        private Model copy() {
            Model other = new Model();
            other.take(this);
            return other;
        }

        private void take(Model other) {
            joints = other.joints;
            base = other.base;
            step = other.step;
            year = other.year;
            text = other.text;
            people = new ArrayList<>();
            other.people.forEach(each -> people.add(each.copy()));
            sorts = new ArrayList<>(other.sorts);
        }

        private void remember() {
            past.addLast(copy());
            if (past.size() > 8) {
                past.removeFirst();
            }
        }

        int answer(String name, int a, int b, int c, int d, int e) {
            return switch (name) {
                case "write" -> write(a);
                case "erase" -> erase();
                case "fault" -> copy().faultOrDone();
                case "hall" -> hall();
                case "person" -> person(a, b);
                case "sort" -> !isIn(a, sorts.size()) ? UNKNOWN : !isIn(b, 2) ? OUTSIDE : sorts.get(a)[b];
                case "as" -> as(a, b);
                case "deed" -> deed(a, b);
                case "feast" -> feast();
                case "year" -> year();
                case "scale" -> scale(a, b);
                case "undo" -> undo();
                case "keep" -> keep(a);
                case "back" -> back(a);
                case "gets" -> !isIn(a, people.size()) ? UNKNOWN : served().getOrDefault(a, NONE);
                case "need" -> need(a, b);
                case "deeds" -> deeds(a, b, c);
                case "seen" -> seen(a, b);
                case "forget" -> forget();
                case "scales" -> scales(a);
                case "tells" -> tells();
                case "chance" -> chance(a, b, c, d, e);
                default -> count(a);
            };
        }

        private static boolean isIn(int number, int size) {
            return number >= 0 && number < size;
        }

        private int write(int letter) {
            if (!isIn(letter, 256)) {
                return OUTSIDE;
            }
            if (text.length() == 160) {
                return FULL;
            }
            text += (char) letter;
            return text.length();
        }

        private int erase() {
            int had = text.length();
            text = "";
            return had;
        }

        /** Does the text's clauses here; the place of the fault, if there is one, half of them done then. */
        private int faultOrDone() {
            List<String> tokens = new ArrayList<>();
            List<Integer> places = new ArrayList<>();
            Matcher matcher = TOKEN.matcher(text);
            while (matcher.find()) {
                tokens.add(matcher.group());
                places.add(matcher.start());
            }
            tokens.add("");
            places.add(text.length());
            int at = 0;
            for (int clauses = 1; ; clauses++) {
                String word = tokens.get(at);
                boolean isFolk = List.of("hero", "boaster", "modest", "child").contains(word);
                if (!Arrays.asList(WORDS).contains(word) || isFolk && people.size() == 6
                    || word.equals("sort") && sorts.size() == 6) {
                    return places.get(at);
                }
                List<Integer> numbers = new ArrayList<>();
                for (int[] bound : bounds(word)) {
                    at++;
                    String token = tokens.get(at);
                    if (!token.matches("[0-9]{1,2}") || Integer.parseInt(token) < bound[0]
                        || Integer.parseInt(token) > bound[1]) {
                        return places.get(at);
                    }
                    numbers.add(Integer.parseInt(token));
                }
                tell(word, numbers);
                at++;
                if (tokens.get(at).isEmpty()) {
                    return NONE;
                }
                if (!tokens.get(at).equals(";") || clauses == 14) {
                    return places.get(at);
                }
                at++;
            }
        }

        private static int[][] bounds(String word) {
            return switch (word) {
                case "hall" -> new int[][] {{2, 9}};
                case "scale" -> new int[][] {{0, 99}, {1, 20}};
                case "sort" -> new int[][] {{0, 20}, {0, 20}};
                default -> new int[][] {{0, 99}};
            };
        }

        private void tell(String word, List<Integer> numbers) {
            switch (word) {
                case "hall" -> {
                    String kept = text;
                    take(new Model());
                    text = kept;
                    joints = numbers.get(0);
                }
                case "scale" -> {
                    base = numbers.get(0);
                    step = numbers.get(1);
                }
                case "sort" -> sorts.add(new int[] {numbers.get(0), numbers.get(1)});
                case "hero" -> come(new Hero(), numbers.get(0));
                case "boaster" -> come(new Boaster(), numbers.get(0));
                case "modest" -> come(new Modest(), numbers.get(0));
                default -> come(new Child(), numbers.get(0));
            }
        }

        private void come(Person one, int fame) {
            one.told = fame;
            one.number = people.size();
            people.add(one);
        }

        private int hall() {
            Model trial = copy();
            if (trial.faultOrDone() != NONE) {
                return NOT;
            }
            int clauses = (int) text.chars().filter(letter -> letter == ';').count() + 1;
            take(trial);
            for (int i = 0; i < people.size(); i++) {
                Person anew = people.get(i).fresh();
                anew.number = i;
                anew.told = people.get(i).told;
                anew.fame = anew.told;
                people.set(i, anew);
            }
            year = 0;
            text = "";
            seen.clear();
            past.clear();
            Arrays.fill(kept, null);
            return clauses;
        }

        private int person(int who, int what) {
            if (!isIn(who, people.size())) {
                return UNKNOWN;
            }
            Person one = people.get(who);
            int[] all = {one.kind(), one.fame, one.gain, one.fear, one.score(), one.fear > one.score() ? 1 : 0,
                one.latest, one.had};
            return isIn(what, all.length) ? all[what] : OUTSIDE;
        }

        private int as(int who, int kind) {
            if (!isIn(who, people.size())) {
                return UNKNOWN;
            }
            if (!isIn(kind, 5)) {
                return OUTSIDE;
            }
            Person one = people.get(who);
            return KINDS[kind].isInstance(one) ? one.fameByYear() - one.fame : NOT;
        }

        private int deed(int who, int sort) {
            if (!isIn(who, people.size()) || !isIn(sort, sorts.size())) {
                return UNKNOWN;
            }
            remember();
            people.get(who).add(sorts.get(sort)[0], sorts.get(sort)[1]);
            return people.get(who).score();
        }

        /** Who would have which joint at a feast now. */
        private Map<Integer, Integer> served() {
            List<Person> row = new ArrayList<>(people);
            row.removeIf(one -> one.fear > one.score());
            row.sort(Comparator.comparingInt((Person one) -> -one.score()).thenComparingInt(one -> one.number));
            TreeSet<Integer> there = new TreeSet<>();
            for (int k = 0; k < joints; k++) {
                there.add(k);
            }
            Map<Integer, Integer> served = new HashMap<>();
            for (Person one : row) {
                Integer joint = one instanceof Child ? (there.isEmpty() ? null : there.last())
                    : there.stream().filter(k -> one.score() >= base - k * step).findFirst().orElse(null);
                if (joint != null) {
                    there.remove(joint);
                    served.put(one.number, joint);
                }
            }
            return served;
        }

        private int feast() {
            if (people.isEmpty()) {
                return NOT;
            }
            remember();
            Map<Integer, Integer> served = served();
            int bits = 0;
            for (Person one : people) {
                one.latest = served.getOrDefault(one.number, NONE);
                one.had += served.containsKey(one.number) ? 1 : 0;
                bits += served.containsKey(one.number) ? 1 << one.number : 0;
            }
            return bits;
        }

        private int year() {
            if (year == 999) {
                return FULL;
            }
            remember();
            for (Person one : people) {
                one.fame = one.fameByYear();
                one.gain = 0;
                one.fear = 0;
            }
            return ++year;
        }

        private int scale(int newBase, int newStep) {
            if (!isIn(newBase, 100) || !isIn(newStep - 1, 20)) {
                return OUTSIDE;
            }
            remember();
            int was = base;
            base = newBase;
            step = newStep;
            return was;
        }

        private int undo() {
            if (past.isEmpty()) {
                return NOT;
            }
            String written = text;
            take(past.removeLast());
            text = written;
            return past.size();
        }

        private int keep(int k) {
            if (!isIn(k, 2)) {
                return UNKNOWN;
            }
            kept[k] = copy();
            return year;
        }

        private int back(int k) {
            if (!isIn(k, 2)) {
                return UNKNOWN;
            }
            if (kept[k] == null) {
                return NOT;
            }
            take(kept[k]);
            past.clear();
            return year;
        }

        private int need(int who, int joint) {
            if (!isIn(who, people.size()) || !isIn(joint, joints)) {
                return UNKNOWN;
            }
            for (int more = 0; more < 100; more++) {
                Model trial = copy();
                trial.people.get(who).add(more, 0);
                if (trial.served().getOrDefault(who, 99) <= joint) {
                    return more;
                }
            }
            return NONE;
        }

        private int deeds(int who, int joint, int k) {
            if (!isIn(who, people.size()) || !isIn(joint, joints)) {
                return UNKNOWN;
            }
            if (!isIn(k + 1, 4)) {
                return OUTSIDE;
            }
            List<List<Integer>> rows = new ArrayList<>();
            gather(new ArrayList<>(), rows);
            rows.removeIf(row -> {
                Model trial = copy();
                row.forEach(sort -> trial.people.get(who).add(sorts.get(sort)[0], sorts.get(sort)[1]));
                return trial.served().getOrDefault(who, NONE) != joint;
            });
            if (rows.isEmpty()) {
                return NONE;
            }
            List<Integer> best = Collections.min(rows, Comparator
                .comparingInt((List<Integer> row) -> row.stream().mapToInt(sort -> sorts.get(sort)[1]).sum())
                .thenComparingInt(List::size)
                .thenComparing(List::toString));
            return k == NONE ? best.size() : k < best.size() ? best.get(k) : NONE;
        }

        private void gather(List<Integer> row, List<List<Integer>> rows) {
            if (!row.isEmpty()) {
                rows.add(row);
            }
            for (int sort = row.isEmpty() ? 0 : row.get(row.size() - 1); row.size() < 3 && sort < sorts.size(); sort++) {
                List<Integer> longer = new ArrayList<>(row);
                longer.add(sort);
                gather(longer, rows);
            }
        }

        private int seen(int score, int joint) {
            if (!isIn(joint + 1, joints + 1)) {
                return UNKNOWN;
            }
            if (!isIn(score, 100)) {
                return OUTSIDE;
            }
            if (seen.size() == 6) {
                return FULL;
            }
            seen.add(new int[] {score, joint});
            return seen.size();
        }

        private int forget() {
            int had = seen.size();
            seen.clear();
            return had;
        }

        int jointBy(int score, int ofBase, int ofStep) {
            int joint = score >= ofBase ? 0 : (ofBase - score + ofStep - 1) / ofStep;
            return joint < joints ? joint : NONE;
        }

        private List<int[]> allScales() {
            List<int[]> all = new ArrayList<>();
            for (int b = 0; b < 100; b++) {
                for (int s = 1; s <= 20; s++) {
                    all.add(new int[] {b, s});
                }
            }
            all.removeIf(scale -> seen.stream().anyMatch(sight -> jointBy(sight[0], scale[0], scale[1]) != sight[1]));
            return all;
        }

        private int scales(int what) {
            if (!isIn(what, 3)) {
                return OUTSIDE;
            }
            List<int[]> all = allScales();
            return what == 0 ? all.size() : all.isEmpty() ? NONE : all.get(0)[what - 1];
        }

        private int tells() {
            List<int[]> all = allScales();
            int best = NONE;
            int fewest = Integer.MAX_VALUE;
            for (int score = 0; score < 100 && !all.isEmpty(); score++) {
                int[] alike = new int[joints + 1];
                for (int[] scale : all) {
                    alike[jointBy(score, scale[0], scale[1]) + 1]++;
                }
                int most = Arrays.stream(alike).max().getAsInt();
                if (most < fewest) {
                    fewest = most;
                    best = score;
                }
            }
            return best;
        }

        private int chance(int who, int joint, int sort, int q, int part) {
            if (!isIn(who, people.size()) || !isIn(joint, joints) || !isIn(sort, sorts.size())) {
                return UNKNOWN;
            }
            if (!isIn(q, 11) || !isIn(part, 2)) {
                return OUTSIDE;
            }
            BigInteger above = ways(this, 0, who, joint, sorts.get(sort), q);
            BigInteger below = BigInteger.TEN.pow(people.size() - 1);
            BigInteger common = above.gcd(below);
            return (part == 0 ? above : below).divide(common).intValueExact();
        }

        private static BigInteger ways(Model model, int from, int who, int joint, int[] sort, int q) {
            if (from == model.people.size()) {
                return model.served().getOrDefault(who, NONE) == joint ? BigInteger.ONE : BigInteger.ZERO;
            }
            if (from == who) {
                return ways(model, from + 1, who, joint, sort, q);
            }
            Model done = model.copy();
            done.people.get(from).add(sort[0], sort[1]);
            return ways(done, from + 1, who, joint, sort, q).multiply(BigInteger.valueOf(q))
                .add(ways(model, from + 1, who, joint, sort, q).multiply(BigInteger.valueOf(10 - q)));
        }

        private int count(int what) {
            int afraid = 0;
            for (Person one : people) {
                afraid += one.fear > one.score() ? 1 << one.number : 0;
            }
            int[] all = {joints, people.size(), sorts.size(), year, base, step, afraid, seen.size(), past.size(),
                text.length()};
            return isIn(what, all.length) ? all[what] : OUTSIDE;
        }
    }
}
