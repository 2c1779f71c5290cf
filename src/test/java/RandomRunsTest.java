import java.util.ArrayList;
import java.util.List;
import java.util.Random;

/** All promises: random calls, from fixed seeds, on the class and on PlainHouse. */
public final class RandomRunsTest {
    private static final int TEXTS = 6000;
    private static final int RUNS = 400;
    private static final int CALLS = 400;

    private final Random random;
    private final List<String> log = new ArrayList<>();
    private final LanternHouse house = new LanternHouse();
    private final PlainHouse plain = new PlainHouse();
    private boolean agrees = true;

    private RandomRunsTest(long seed) {
        random = new Random(seed);
    }

    public static void main(String[] args) {
        int texts = args.length > 0 ? Integer.parseInt(args[0]) : TEXTS;
        int runs = args.length > 1 ? Integer.parseInt(args[1]) : RUNS;
        int wrong = 0;
        for (int seed = 0; seed < texts && wrong < 5; seed++) {
            wrong += new RandomRunsTest(seed).readsAlike() ? 0 : 1;
        }
        for (int seed = 0; seed < runs && wrong < 5; seed++) {
            wrong += new RandomRunsTest(1_000_000L + seed).runsAlike() ? 0 : 1;
        }
        System.out.println(texts + " texts and " + runs + " runs, " + wrong + " that differ");
        if (wrong != 0) {
            System.exit(1);
        }
    }

    private int below(int n) {
        return random.nextInt(n);
    }

    private boolean oneIn(int n) {
        return random.nextInt(n) == 0;
    }

    /** Mostly 0 .. most, now and then what is just outside or far off. */
    private int around(int most) {
        if (oneIn(40)) {
            int[] off = {-1, most + 1, most, 0, Integer.MIN_VALUE, Integer.MAX_VALUE, most + 32, -most};
            return off[below(off.length)];
        }
        return most <= 0 ? 0 : below(most + 1);
    }

    private void same(String call, int got, int due) {
        log.add(call + " = " + got);
        if (agrees && got != due) {
            agrees = false;
            int from = Math.max(0, log.size() - 60);
            for (String line : log.subList(from, log.size())) {
                System.out.println("  " + line);
            }
            System.out.println("due by the plain house: " + due);
        }
    }

    // ---- texts

    private String pick(String... choices) {
        return choices[below(choices.length)];
    }

    /** An E with ( up to so deep. */
    private String sum(int deep) {
        StringBuilder sum = new StringBuilder(unit(deep));
        for (int i = below(3); i > 0; i--) {
            sum.append(pick("+", "-", "*", " * ")).append(unit(deep));
        }
        return sum.toString();
    }

    private String unit(int deep) {
        if (deep > 0 && oneIn(3)) {
            return "(" + sum(deep - 1) + ")";
        }
        return oneIn(2) ? String.valueOf(below(oneIn(3) ? 10000 : 12))
                : pick("shown", "missed", "instead", "minutes", "gas", "worth");
    }

    private String nest(int deep) {
        return deep == 0 ? unit(0) : (oneIn(2) ? unit(0) + pick("+", "-", "*") : "") + "(" + nest(deep - 1) + ")";
    }

    private String cue(boolean odd) {
        StringBuilder cue = new StringBuilder(oneIn(2) ? "must " : "may ");
        int kind = below(7);
        cue.append(kind);
        for (int i = odd && oneIn(20) ? 3 : below(3); i > 0; i--) {
            kind = odd && oneIn(20) ? below(60) : (kind + 1 + below(2)) % 7;
            cue.append(" or ").append(kind);
        }
        int minutes = odd && oneIn(40) ? below(40) : 1 + below(12);
        cue.append(" for ").append(minutes);
        if (oneIn(2)) {
            cue.append(" fade ").append(odd && oneIn(30) ? below(20) : below(minutes + 1));
        }
        return cue.append(pick(";", "; ", " ;\n")).toString();
    }

    private String hire(boolean odd) {
        StringBuilder hire = new StringBuilder("hire ");
        hire.append(odd && oneIn(5) ? nest(4 + below(4)) : sum(3));
        if (!oneIn(3)) {
            String joint = " if ";
            for (int i = 1 + below(2); i > 0; i--) {
                hire.append(joint).append(sum(1)).append(pick("==", " != ", "<", "<=", "<=")).append(sum(1));
                joint = " and ";
            }
        }
        return hire.append(";").toString();
    }

    private String text(boolean odd) {
        StringBuilder text = new StringBuilder();
        for (int i = odd && oneIn(12) ? 6 : below(3); i >= 0; i--) {
            text.append("lecture ").append(odd && oneIn(10) ? pick("a", "abcdefgh", "abcdefghi") : "x" + (char) ('a' + i));
            text.append(";");
            for (int cues = odd && oneIn(16) ? 9 : below(6); cues > 0; cues--) {
                text.append(cue(odd));
            }
            for (int hires = odd && oneIn(16) ? 5 : below(4); hires > 0; hires--) {
                text.append(hire(odd));
            }
            text.append("end").append(pick(" ", "\n", "\t", "\r"));
        }
        return text.substring(0, Math.min(3000, text.length()));
    }

    private String spoilt(String text) {
        StringBuilder spoilt = new StringBuilder(text);
        for (int i = below(3); i >= 0 && spoilt.length() > 0; i--) {
            int at = below(spoilt.length());
            switch (below(4)) {
                case 0: spoilt.deleteCharAt(at); break;
                case 1: spoilt.insert(at, pick("(", ")", "=", "<", "!", ";", "9", "or ", " end ", "a", "A", "\u00e9", " ")); break;
                case 2: spoilt.setLength(at); break;
                default: spoilt.setCharAt(at, (char) below(oneIn(2) ? 128 : 256)); break;
            }
        }
        return spoilt.substring(0, Math.min(3000, spoilt.length()));
    }

    private void feedBoth(String text) {
        int[] w = new int[5];
        for (int from = 0; from < text.length(); from += 20) {
            for (int i = 0; i < 20; i++) {
                w[i / 4] = w[i / 4] << 8 | (from + i < text.length() ? text.charAt(from + i) : 32);
            }
            same("feed", house.feed(w[0], w[1], w[2], w[3], w[4]), plain.feed(w[0], w[1], w[2], w[3], w[4]));
        }
        int surplus = (20 - text.length() % 20) % 20;
        same("back", house.back(surplus), plain.back(surplus));
    }

    private void readBoth(String text) {
        feedBoth(text);
        log.add("the text: " + text);
        same("read()", house.read(), plain.read());
        same("place()", house.place(), plain.place());
    }

    private boolean readsAlike() {
        String text = text(true);
        for (int i = 0; i < 4 && agrees; i++) {
            readBoth(text);
            same("count(4)", house.count(4), plain.count(4));
            text = spoilt(i == 0 ? text(oneIn(2)) : text);
        }
        // tokens pile up to more than 600
        StringBuilder many = new StringBuilder("lecture a;hire 1");
        for (int i = 285 + below(20); i > 0; i--) {
            many.append(oneIn(3) ? "*(1)" : "+gas").append(oneIn(400) ? "+" : "");
        }
        readBoth(many.append(pick(";end", ";", ")", "", " if 1<2;end", ";hire 1;end", ";end lecture b;end")).toString());
        return agrees;
    }

    // ---- runs

    private boolean runsAlike() {
        for (int i = below(6); i > 0; i--) {
            same("hall()", house.hall(), plain.hall());
        }
        for (int i = below(17); i > 0; i--) {
            addTrain();
        }
        for (int i = below(20); i > 0; i--) {
            addPlate();
        }
        readBoth(text(false));
        for (int i = 0; i < CALLS && agrees; i++) {
            call();
        }
        return agrees;
    }

    private void addTrain() {
        int from = around(plain.count(0) - 1);
        int to = around(plain.count(0) - 1);
        int hour = around(23);
        int takes = oneIn(10) ? around(31) : 1 + below(14);
        same("train(" + from + ", " + to + ", " + hour + ", " + takes + ")",
                house.train(from, to, hour, takes), plain.train(from, to, hour, takes));
    }

    private void addPlate() {
        int kind = oneIn(12) ? around(29) : below(7);
        same("plate(" + kind + ")", house.plate(kind), plain.plate(kind));
    }

    private int known() {
        int facts = plain.count(3);
        return oneIn(20) ? around(facts) : oneIn(2) ? facts : below(facts + 1);
    }

    private int hour() {
        return oneIn(3) ? around(700) : oneIn(2) ? 24 * below(6) + 16 + below(8) : below(150);
    }

    private void call() {
        switch (below(22)) {
            case 0: callRare(); break;
            case 1: case 2: tellFact(); break;
            case 3: case 4: addShow(); break;
            case 5: askWay(); break;
            case 6: askBroken(); break;
            case 7: askCan(); break;
            case 8: askMake(); break;
            case 9: askMend(); break;
            case 10: askTold(); break;
            case 11: case 12: case 13: askCue(); break;
            case 14: case 15: case 16: askShowing(); break;
            case 17: case 18: askBlame(); break;
            case 19: askWhere(); break;
            default: askCount(); break;
        }
    }

    private void callRare() {
        switch (below(12)) {
            case 0: same("hall()", house.hall(), plain.hall()); break;
            case 1: addTrain(); break;
            case 2: addPlate(); break;
            case 3:
                int h = oneIn(2) ? around(24) : below(6);
                same("cleaning(" + h + ")", house.cleaning(h) ? 1 : 0, plain.cleaning(h) ? 1 : 0);
                break;
            case 4:
                int n = around(30);
                same("back(" + n + ")", house.back(n), plain.back(n));
                break;
            case 5: same("place()", house.place(), plain.place()); break;
            case 6:
                if (plain.count(9) == 0) {
                    readBoth(oneIn(2) ? spoilt(text(true)) : text(false));
                }
                break;
            default: break;
        }
    }

    private void tellFact() {
        if (oneIn(3)) {
            int train = around(plain.count(1) - 1);
            int day = oneIn(3) ? around(40) : below(6);
            same("cancel(" + train + ", " + day + ")", house.cancel(train, day), plain.cancel(train, day));
        } else {
            int plate = around(plain.count(2) - 1);
            int hour = hour();
            boolean whole = !oneIn(3);
            same("look(" + plate + ", " + hour + ", " + whole + ")",
                    house.look(plate, hour, whole), plain.look(plate, hour, whole));
        }
    }

    private void addShow() {
        int night = oneIn(4) ? around(27) : below(5);
        int hall = around(plain.count(0) - 1);
        int lecture = around(plain.count(4) - 1);
        int gas = oneIn(3) ? around(500) : below(60);
        int worth = oneIn(3) ? around(1000) : 5 * below(3);
        same("show(" + night + ", " + hall + ", " + lecture + ", " + gas + ", " + worth + ")",
                house.show(night, hall, lecture, gas, worth), plain.show(night, hall, lecture, gas, worth));
    }

    private void askWay() {
        int from = around(plain.count(0) - 1);
        int to = around(plain.count(0) - 1);
        int hour = hour();
        int n = known();
        same("way(" + from + ", " + to + ", " + hour + ", " + n + ")",
                house.way(from, to, hour, n), plain.way(from, to, hour, n));
    }

    private void askBroken() {
        int plate = around(plain.count(2) - 1);
        int hour = hour();
        int n = known();
        same("broken(" + plate + ", " + hour + ", " + n + ")", house.broken(plate, hour, n), plain.broken(plate, hour, n));
    }

    private void askCan() {
        int set = around((1 << plain.count(5)) - 1);
        int n = known();
        same("can(" + set + ", " + n + ")", house.can(set, n), plain.can(set, n));
    }

    private void askMake() {
        int n = known();
        same("make(" + n + ")", house.make(n), plain.make(n));
    }

    private void askMend() {
        int n = known();
        same("mend(" + n + ")", house.mend(n), plain.mend(n));
    }

    private void askTold() {
        int show = around(plain.count(5) - 1);
        int what = around(5);
        same("told(" + show + ", " + what + ")", house.told(show, what), plain.told(show, what));
    }

    private void askCue() {
        int show = around(plain.count(5) - 1);
        int i = around(7);
        for (int what = -1; what <= 5; what++) {
            same("cue(" + show + ", " + i + ", " + what + ")", house.cue(show, i, what), plain.cue(show, i, what));
        }
    }

    private void askShowing() {
        int show = around(plain.count(5) - 1);
        for (int what = -1; what <= 8; what++) {
            same("showing(" + show + ", " + what + ")", house.showing(show, what), plain.showing(show, what));
        }
    }

    private void askBlame() {
        int plate = around(plain.count(2) - 1);
        int n = known();
        same("blame(" + plate + ", " + n + ")", house.blame(plate, n), plain.blame(plate, n));
    }

    private void askWhere() {
        int plate = around(plain.count(2) - 1);
        int hour = hour();
        same("where(" + plate + ", " + hour + ")", house.where(plate, hour), plain.where(plate, hour));
    }

    private void askCount() {
        int what = around(9);
        same("count(" + what + ")", house.count(what), plain.count(what));
    }
}
