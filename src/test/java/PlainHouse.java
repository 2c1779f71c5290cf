import java.util.ArrayList;
import java.util.Arrays;
import java.util.Comparator;
import java.util.HashSet;
import java.util.List;
import java.util.Set;
import java.util.TreeMap;

/** A second reading of the document, slow and by other means, to hold the class against in random runs. */
final class PlainHouse {
    private static final Set<String> WORDS = new HashSet<>(Arrays.asList(
            "lecture end must may or for fade hire if and shown missed instead minutes gas worth".split(" ")));
    private static final Set<String> VARS = new HashSet<>(Arrays.asList(
            "shown missed instead minutes gas worth".split(" ")));

    private record Cue(boolean must, List<Integer> kinds, int minutes, int fade) { }

    private record Rel(Term left, String sign, Term right) { }

    private record Hire(Term term, List<Rel> rels) { }

    private record Lecture(String name, List<Cue> cues, List<Hire> hires) { }

    private record Train(int from, int to, int hour, int takes) { }

    private record Fact(boolean isLook, int subject, int time, boolean whole) { }

    private record Show(int night, int hall, int lecture, int gas, int worth) {
        int due() {
            return 24 * night + 18;
        }
    }

    private record Had(int plate, boolean instead, int from, int arrival) { }

    /** What the SHOWS of a set got, by SHOW and CUE; null: MISSED. */
    private record Kept(int set, int worth, int missed, int instead, TreeMap<Integer, List<Had>> had) { }

    private interface Term {
        int value(TreeMap<String, Integer> vars);
    }

    private static final class Fault extends Exception {
        private static final long serialVersionUID = 1L;
        final int number;
        final int place;

        Fault(int number, int place) {
            this.number = number;
            this.place = place;
        }
    }

    private final StringBuilder tape = new StringBuilder();
    private int faultPlace = -1;
    private int halls = 1;
    private final List<Train> trains = new ArrayList<>();
    private final List<Integer> plates = new ArrayList<>();
    private final List<Fact> facts = new ArrayList<>();
    private final List<Show> shows = new ArrayList<>();
    private List<Lecture> lectures = new ArrayList<>();
    private int cleaning = 0;
    private Kept made = null;

    // ---- the text: TOKENS one by one as they are asked for, and a tree of terms

    private final class Parser {
        final String text;
        int at = 0;
        int taken = 0;
        Fault soft = null;

        Parser(String text) {
            this.text = text;
        }

        int start() {
            int i = at;
            while (i < text.length() && " \t\r\n".indexOf(text.charAt(i)) >= 0) {
                i++;
            }
            return i;
        }

        /** The TOKEN at hand; "" at the text's end, null if it is none. */
        String peek() {
            int i = start();
            if (i == text.length()) {
                return "";
            }
            String rest = text.substring(i);
            java.util.regex.Matcher m = java.util.regex.Pattern
                    .compile("^(?:[a-z]+|[0-9]+|==|!=|<=|[;+*()<-])").matcher(rest);
            if (!m.find()) {
                return null;
            }
            String token = m.group();
            boolean tooLong = Character.isLetter(token.charAt(0)) ? token.length() > 8
                    : Character.isDigit(token.charAt(0)) && token.length() > 4;
            return tooLong ? null : token;
        }

        boolean sees(String token) {
            return token.equals(peek());
        }

        String take(java.util.function.Predicate<String> fits) throws Fault {
            String token = peek();
            if (token == null || token.isEmpty() || !fits.test(token)) {
                throw new Fault(1, start());
            }
            if (taken == 600) {
                throw new Fault(2, start());
            }
            taken++;
            at = start() + token.length();
            return token;
        }

        void take(String word) throws Fault {
            take(word::equals);
        }

        int takeInt() throws Fault {
            return Integer.parseInt(take(t -> Character.isDigit(t.charAt(0))));
        }

        void soft(int number, int place) {
            if (soft == null) {
                soft = new Fault(number, place);
            }
        }

        List<Lecture> text() throws Fault {
            List<Lecture> all = new ArrayList<>();
            while (sees("lecture")) {
                if (all.size() == 6) {
                    throw new Fault(2, start());
                }
                all.add(lecture(all));
            }
            if (!sees("")) {
                throw new Fault(1, start());
            }
            if (soft != null) {
                throw soft;
            }
            return all;
        }

        Lecture lecture(List<Lecture> ahead) throws Fault {
            take("lecture");
            int place = start();
            String name = take(t -> Character.isLetter(t.charAt(0)) && !WORDS.contains(t));
            if (ahead.stream().anyMatch(l -> l.name().equals(name))) {
                soft(3, place);
            }
            take(";");
            Lecture lecture = new Lecture(name, new ArrayList<>(), new ArrayList<>());
            while (sees("must") || sees("may")) {
                if (lecture.cues().size() == 8) {
                    throw new Fault(2, start());
                }
                lecture.cues().add(cue());
            }
            while (sees("hire")) {
                if (lecture.hires().size() == 4) {
                    throw new Fault(2, start());
                }
                lecture.hires().add(hire());
            }
            take("end");
            return lecture;
        }

        Cue cue() throws Fault {
            boolean must = take(t -> true).equals("must");
            List<Integer> kinds = new ArrayList<>();
            do {
                if (!kinds.isEmpty()) {
                    take("or");
                }
                int place = start();
                String token = peek();
                if (kinds.size() == 3 && token != null && token.matches("[0-9]+")) {
                    throw new Fault(2, place);
                }
                int kind = takeInt();
                if (kinds.contains(kind)) {
                    soft(3, place);
                }
                if (kind > 29) {
                    soft(5, place);
                }
                kinds.add(kind);
            } while (sees("or"));
            take("for");
            int place = start();
            int minutes = takeInt();
            if (minutes == 0 || minutes > 30) {
                soft(5, place);
            }
            int fade = 0;
            if (sees("fade")) {
                take("fade");
                place = start();
                fade = takeInt();
                if (fade > minutes) {
                    soft(5, place);
                }
            }
            take(";");
            return new Cue(must, kinds, minutes, fade);
        }

        Hire hire() throws Fault {
            take("hire");
            Hire hire = new Hire(sum(0), new ArrayList<>());
            if (sees("if")) {
                take("if");
                hire.rels().add(rel());
                while (sees("and")) {
                    take("and");
                    hire.rels().add(rel());
                }
            }
            take(";");
            return hire;
        }

        Rel rel() throws Fault {
            Term left = sum(0);
            String sign = take(t -> t.equals("==") || t.equals("!=") || t.equals("<") || t.equals("<="));
            return new Rel(left, sign, sum(0));
        }

        Term sum(int depth) throws Fault {
            Term sum = part(depth);
            while (sees("+") || sees("-")) {
                boolean plus = take(t -> true).equals("+");
                Term left = sum;
                Term right = part(depth);
                sum = vars -> plus ? left.value(vars) + right.value(vars) : left.value(vars) - right.value(vars);
            }
            return sum;
        }

        Term part(int depth) throws Fault {
            Term part = unit(depth);
            while (sees("*")) {
                take("*");
                Term left = part;
                Term right = unit(depth);
                part = vars -> left.value(vars) * right.value(vars);
            }
            return part;
        }

        Term unit(int depth) throws Fault {
            if (sees("(")) {
                if (depth == 6) {
                    throw new Fault(2, start());
                }
                take("(");
                Term inner = sum(depth + 1);
                take(")");
                return inner;
            }
            String token = take(t -> Character.isDigit(t.charAt(0)) || VARS.contains(t));
            return VARS.contains(token) ? vars -> vars.get(token) : vars -> Integer.parseInt(token);
        }
    }

    int feed(int a, int b, int c, int d, int e) {
        if (tape.length() + 20 > 3000) {
            return -1;
        }
        for (int word : new int[] {a, b, c, d, e}) {
            for (int i = 3; i >= 0; i--) {
                tape.append((char) (word >>> 8 * i & 255));
            }
        }
        return tape.length();
    }

    int back(int n) {
        if (n < 0 || n > tape.length()) {
            return -1;
        }
        tape.setLength(tape.length() - n);
        return tape.length();
    }

    int read() {
        String text = tape.toString();
        tape.setLength(0);
        try {
            lectures = new Parser(text).text();
            shows.clear();
            made = null;
            faultPlace = -1;
            return 0;
        } catch (Fault fault) {
            faultPlace = fault.place;
            return fault.number;
        }
    }

    int place() {
        return faultPlace;
    }

    // ---- what is told

    private static boolean in(int x, int least, int most) {
        return least <= x && x <= most;
    }

    private boolean isPlate(int plate) {
        return in(plate, 0, plates.size() - 1);
    }

    private boolean isN(int n) {
        return in(n, 0, facts.size());
    }

    int hall() {
        return halls == 6 ? -1 : halls++;
    }

    int train(int from, int to, int hour, int takes) {
        if (trains.size() == 16 || !in(from, 0, halls - 1) || !in(to, 0, halls - 1) || from == to
                || !in(hour, 0, 23) || !in(takes, 1, 30)) {
            return -1;
        }
        trains.add(new Train(from, to, hour, takes));
        return trains.size() - 1;
    }

    int plate(int kind) {
        if (plates.size() == 20 || !in(kind, 0, 29)) {
            return -1;
        }
        plates.add(kind);
        return plates.size() - 1;
    }

    boolean cleaning(int h) {
        if (in(h, 0, 24)) {
            cleaning = h;
            return true;
        }
        return false;
    }

    private int fact(Fact fact) {
        if (facts.size() == 300) {
            return -1;
        }
        facts.add(fact);
        return facts.size() - 1;
    }

    int cancel(int train, int day) {
        return in(train, 0, trains.size() - 1) && in(day, 0, 40) ? fact(new Fact(false, train, day, false)) : -1;
    }

    int look(int plate, int hour, boolean whole) {
        return isPlate(plate) && in(hour, 0, 700) ? fact(new Fact(true, plate, hour, whole)) : -1;
    }

    int show(int night, int hall, int lecture, int gas, int worth) {
        if (shows.size() == 8 || !in(night, 0, 27) || !in(hall, 0, halls - 1)
                || !in(lecture, 0, lectures.size() - 1) || !in(gas, 0, 500) || !in(worth, 0, 1000)
                || shows.stream().anyMatch(s -> s.night() == night && s.hall() == hall)) {
            return -1;
        }
        shows.add(new Show(night, hall, lecture, gas, worth));
        return shows.size() - 1;
    }

    // ---- ways: hour by hour, each train that leaves where the plate may be

    private int soonest(int from, int to, int hour, int n) {
        Set<Integer> idle = new HashSet<>();
        for (Fact fact : facts.subList(0, n)) {
            if (!fact.isLook()) {
                idle.add(fact.subject() * 1000 + fact.time());
            }
        }
        int[] there = new int[halls];
        Arrays.fill(there, Integer.MAX_VALUE);
        there[from] = hour;
        for (int now = hour; now < 24 * (hour / 24 + 60); now++) {
            for (int i = 0; i < trains.size(); i++) {
                Train train = trains.get(i);
                if (now % 24 == train.hour() && there[train.from()] <= now && !idle.contains(i * 1000 + now / 24)) {
                    there[train.to()] = Math.min(there[train.to()], now + train.takes());
                }
            }
        }
        return there[to] == Integer.MAX_VALUE ? -1 : there[to];
    }

    int way(int from, int to, int hour, int n) {
        if (!in(from, 0, halls - 1) || !in(to, 0, halls - 1) || !in(hour, 0, 700) || !isN(n)) {
            return -1;
        }
        return from == to ? hour : soonest(from, to, hour, n);
    }

    private List<Fact> looks(int plate, int n) {
        List<Fact> looks = new ArrayList<>();
        for (Fact fact : facts.subList(0, n)) {
            if (fact.isLook() && fact.subject() == plate) {
                looks.add(fact);
            }
        }
        looks.sort(Comparator.comparingInt(Fact::time));
        return looks;
    }

    private boolean isBroken(int plate, int hour, int n) {
        boolean broken = false;
        for (Fact look : looks(plate, n)) {
            if (look.time() <= hour) {
                broken = !look.whole();
            }
        }
        return broken;
    }

    int broken(int plate, int hour, int n) {
        if (!isPlate(plate) || !in(hour, 0, 700) || !isN(n)) {
            return -1;
        }
        return isBroken(plate, hour, n) ? 1 : 0;
    }

    // ---- sets

    /** Null if the set can't be KEPT. */
    private Kept keep(int set, int n, TreeMap<String, Integer> ways) {
        List<Integer> order = new ArrayList<>();
        for (int i = 0; i < shows.size(); i++) {
            if ((set >> i & 1) == 1) {
                order.add(i);
            }
        }
        order.sort(Comparator.comparingInt(i -> shows.get(i).night()));
        TreeMap<Integer, List<Had>> had = new TreeMap<>();
        int[] hallOf = new int[plates.size()];
        int[] freeFrom = new int[plates.size()];
        int worth = 0;
        int missed = 0;
        int instead = 0;
        for (int number : order) {
            Show show = shows.get(number);
            worth += show.worth();
            List<Had> got = new ArrayList<>();
            for (Cue cue : lectures.get(show.lecture()).cues()) {
                Had best = null;
                for (int kind : cue.kinds()) {
                    for (int plate = 0; plate < plates.size() && best == null; plate++) {
                        int p = plate;
                        if (plates.get(plate) != kind || isBroken(plate, show.due(), n)
                                || got.stream().anyMatch(h -> h != null && h.plate() == p)) {
                            continue;
                        }
                        String key = hallOf[p] + " " + show.hall() + " " + freeFrom[p];
                        int arrival = hallOf[p] == show.hall() ? freeFrom[p]
                                : ways.computeIfAbsent(key, k -> soonest(hallOf[p], show.hall(), freeFrom[p], n));
                        if (arrival != -1 && arrival <= show.due()) {
                            best = new Had(plate, kind != cue.kinds().get(0), hallOf[plate], arrival);
                        }
                    }
                }
                if (best == null && cue.must()) {
                    return null;
                }
                missed += best == null ? 1 : 0;
                instead += best != null && best.instead() ? 1 : 0;
                got.add(best);
            }
            for (Had one : got) {
                if (one != null) {
                    hallOf[one.plate()] = show.hall();
                    freeFrom[one.plate()] = 24 * show.night() + 23 + cleaning;
                }
            }
            had.put(number, got);
        }
        return new Kept(set, worth, missed, instead, had);
    }

    int can(int set, int n) {
        if (!in(set, 0, (1 << shows.size()) - 1) || !isN(n)) {
            return -1;
        }
        Kept kept = keep(set, n, new TreeMap<>());
        return kept == null ? -2 : kept.worth();
    }

    /** A set read as digits, show 0 first, 0 for one that is in: the first by who is in has the least number. */
    private int absentees(int set) {
        int number = 0;
        for (int i = 0; i < 8; i++) {
            number = 2 * number + (1 - (set >> i & 1));
        }
        return number;
    }

    private Kept best(int n, boolean mending) {
        List<Kept> all = new ArrayList<>();
        TreeMap<String, Integer> ways = new TreeMap<>();
        for (int set = 0; set < 1 << shows.size(); set++) {
            Kept kept = keep(set, n, ways);
            if (kept != null) {
                all.add(kept);
            }
        }
        int before = mending ? made.set() : 0;
        all.sort(Comparator.<Kept>comparingInt(k -> -k.worth())
                .thenComparingInt(k -> mending ? Integer.bitCount(k.set() ^ before) : 0)
                .thenComparingInt(Kept::missed)
                .thenComparingInt(Kept::instead)
                .thenComparingInt(k -> absentees(k.set())));
        return all.get(0);
    }

    int make(int n) {
        if (!isN(n)) {
            return -1;
        }
        made = best(n, false);
        return made.worth();
    }

    int mend(int n) {
        if (made == null || !isN(n)) {
            return -1;
        }
        int before = made.set();
        made = best(n, true);
        return Integer.bitCount(before ^ made.set());
    }

    private boolean isKept(int show) {
        return made != null && made.had().containsKey(show);
    }

    int told(int show, int what) {
        if (!in(show, 0, shows.size() - 1) || !in(what, 0, 5)) {
            return -1;
        }
        Show s = shows.get(show);
        return new int[] {s.night(), s.hall(), s.lecture(), s.gas(), s.worth(), isKept(show) ? 1 : 0}[what];
    }

    /** Of each CUE: the minute at which it begins (-1: MISSED), and whether it is shown. */
    private int[][] goThrough(int show) {
        List<Cue> cues = lectures.get(shows.get(show).lecture()).cues();
        List<Had> had = made.had().get(show);
        int[][] rows = new int[cues.size()][2];
        int gas = shows.get(show).gas();
        int minute = 0;
        for (int i = 0; i < cues.size(); i++) {
            rows[i][0] = had.get(i) == null ? -1 : minute;
            if (had.get(i) != null) {
                for (int m = 0; m < cues.get(i).minutes(); m++) {
                    gas -= m >= cues.get(i).minutes() - cues.get(i).fade() ? 2 : 1;
                    minute++;
                }
                rows[i][1] = gas >= 0 ? 1 : 0;
            }
        }
        return rows;
    }

    int cue(int show, int i, int what) {
        if (!isKept(show) || !in(i, 0, made.had().get(show).size() - 1)) {
            return -1;
        }
        Had had = made.had().get(show).get(i);
        int[] row = goThrough(show)[i];
        switch (what) {
            case 0: return had == null ? -1 : had.plate();
            case 1: return had == null ? -1 : plates.get(had.plate());
            case 2: return row[0];
            case 3: return row[1];
            case 4: return had != null && had.instead() ? 1 : 0;
            default: return -1;
        }
    }

    int showing(int show, int what) {
        if (!isKept(show)) {
            return -1;
        }
        Lecture lecture = lectures.get(shows.get(show).lecture());
        int[][] rows = goThrough(show);
        TreeMap<String, Integer> vars = new TreeMap<>();
        for (String name : VARS) {
            vars.put(name, 0);
        }
        vars.put("worth", shows.get(show).worth());
        int dark = -1;
        for (int i = 0; i < rows.length; i++) {
            Had had = made.had().get(show).get(i);
            Cue cue = lecture.cues().get(i);
            if (rows[i][1] == 1) {
                vars.merge("shown", 1, Integer::sum);
                vars.merge("instead", had.instead() ? 1 : 0, Integer::sum);
                vars.merge("minutes", cue.minutes(), Integer::sum);
                vars.merge("gas", cue.minutes() + cue.fade(), Integer::sum);
            } else {
                vars.merge("missed", 1, Integer::sum);
                dark = dark == -1 && had != null ? i : dark;
            }
        }
        int number = -1;
        for (int i = lecture.hires().size() - 1; i >= 0; i--) {
            if (lecture.hires().get(i).rels().stream().allMatch(rel -> holds(rel, vars))) {
                number = i;
            }
        }
        int hire = number == -1 ? 0 : lecture.hires().get(number).term().value(vars);
        int[] answers = {vars.get("shown"), vars.get("missed"), vars.get("instead"), vars.get("minutes"),
            vars.get("gas"), hire, dark, number};
        return in(what, 0, 7) ? answers[what] : -1;
    }

    private static boolean holds(Rel rel, TreeMap<String, Integer> vars) {
        int order = Integer.compare(rel.left().value(vars), rel.right().value(vars));
        switch (rel.sign()) {
            case "==": return order == 0;
            case "!=": return order != 0;
            case "<": return order < 0;
            default: return order <= 0;
        }
    }

    int blame(int plate, int n) {
        if (made == null || !isPlate(plate) || !isN(n)) {
            return -1;
        }
        int whole = -1;
        int broken = -1;
        for (Fact look : looks(plate, n)) {
            if (!look.whole()) {
                broken = look.time();
                break;
            }
            whole = look.time();
        }
        if (broken == -1) {
            return -1;
        }
        List<Integer> came = new ArrayList<>();
        for (int show : made.had().keySet()) {
            for (Had had : made.had().get(show)) {
                if (had != null && had.plate() == plate) {
                    if (in(24 * shows.get(show).night() + 20, whole + 1, broken)) {
                        came.add(show);
                    }
                    if (had.from() != shows.get(show).hall() && in(had.arrival(), whole + 1, broken)) {
                        came.add(100 + show);
                    }
                }
            }
        }
        return came.isEmpty() ? -2 : came.size() > 1 ? -3 : came.get(0);
    }

    int where(int plate, int hour) {
        if (made == null || !isPlate(plate) || !in(hour, 0, 700)) {
            return -1;
        }
        int latest = -1;
        int hall = 0;
        for (int show : made.had().keySet()) {
            Show s = shows.get(show);
            if (s.due() <= hour && s.due() > latest
                    && made.had().get(show).stream().anyMatch(h -> h != null && h.plate() == plate)) {
                latest = s.due();
                hall = s.hall();
            }
        }
        return hall;
    }

    int count(int what) {
        switch (what) {
            case 0: return halls;
            case 1: return trains.size();
            case 2: return plates.size();
            case 3: return facts.size();
            case 4: return lectures.size();
            case 5: return shows.size();
            case 6: return made == null ? -1 : made.had().size();
            case 7: return made == null ? -1 : made.missed();
            case 8: return made == null ? -1 : made.instead();
            case 9: return tape.length();
            default: return -1;
        }
    }
}
