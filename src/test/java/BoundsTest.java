/** The document's Terms, sentence by sentence: the last that is taken and the first that is not, what is empty and full. */
public final class BoundsTest {
    private static final String ONE = "lecture a;must 1 for 1;end";

    public static void main(String[] args) {
        Check check = new Check();
        trainsAtTheirEdges(check);
        daysOfTrains(check);
        lastTrainAndHall(check);
        longestWay(check);
        factsAsKnown(check);
        looksAtTheFirstAndLastHour(check);
        platesStartAtTheHouse(check);
        lastPlate(check);
        dueHours(check);
        brokenAtTheDueHour(check);
        freeHours(check);
        cleaningAtItsEdges(check);
        cleaningStaysBehindAText(check);
        setsAtTheirEdges(check);
        fullLecture(check);
        nothingAtAll(check);
        everythingFull(check);
        lastCallOfAll(check);
        check.end();
    }

    private static LanternHouse withHalls(LanternHouse house, int halls) {
        for (int i = 1; i < halls; i++) {
            house.hall();
        }
        return house;
    }

    // ---- I.

    /** "each day at the same HOUR (0 .. 23), for 1 .. 30 HOURS"; "leaves at 24 * x and its HOUR, if the PLATE is there by then" */
    private static void trainsAtTheirEdges(Check check) {
        for (int leaves : new int[] {0, 1, 12, 22, 23}) {
            for (int takes : new int[] {1, 2, 29, 30}) {
                LanternHouse house = withHalls(new LanternHouse(), 2);
                check.due("train at " + leaves + " for " + takes, house.train(0, 1, leaves, takes), 0);
                check.due("from 0", house.way(0, 1, 0, 0), leaves + takes);
                check.due("as it leaves", house.way(0, 1, leaves, 0), leaves + takes);
                check.due("an hour later", house.way(0, 1, leaves + 1, 0), 24 + leaves + takes);
                check.due("the day's last hour", house.way(0, 1, 23, 0), (leaves == 23 ? 0 : 24) + leaves + takes);
                check.due("the next day's first hour", house.way(0, 1, 24, 0), 24 + leaves + takes);
                // HOUR 700 is the fifth of day 29
                check.due("at the last hour", house.way(0, 1, 700, 0), 24 * (leaves < 4 ? 30 : 29) + leaves + takes);
                check.due("never back", house.way(1, 0, 0, 0), -1);
            }
        }
    }

    /** "a TRAIN does not RUN on a day (0 .. 40)" */
    private static void daysOfTrains(Check check) {
        for (int day = 0; day <= 40; day++) {
            LanternHouse house = withHalls(new LanternHouse(), 2);
            house.train(0, 1, 23, 30);
            house.train(1, 0, 5, 1);
            check.due("cancel on day " + day, house.cancel(0, day), 0);
            int leaves = 24 * day + 23;
            check.due("not known", house.way(0, 1, Math.min(leaves, 700), 0), 24 * Math.min(day, 29) + 53);
            int from = Math.min(24 * day, 696);
            boolean isAsked = day <= 29;
            check.due("that day", house.way(0, 1, from, 1), isAsked ? leaves + 54 : 24 * 29 + 53);
            check.due("the day ahead", house.way(0, 1, Math.max(0, Math.min(leaves - 24, 695)), 1),
                    day == 0 ? 24 + 53 : 24 * Math.min(day - 1, 28) + 53);
            check.due("the other train", house.way(1, 0, from, 1), from + 6);
        }
        // the day at which it leaves counts, not that at which it comes
        LanternHouse house = withHalls(new LanternHouse(), 2);
        house.train(0, 1, 23, 30);
        house.cancel(0, 1);
        house.cancel(0, 2);
        check.due("it comes on a day on which it does not run", house.way(0, 1, 0, 2), 53);
        check.due("a day later", house.way(0, 1, 24, 2), 72 + 53);
    }

    /** "TRAINS, 16 at most", "HALLS, 6 at most": the last ones are as good as the others */
    private static void lastTrainAndHall(Check check) {
        LanternHouse house = withHalls(new LanternHouse(), 6);
        for (int i = 0; i < 15; i++) {
            house.train(0, 1 + i % 4, 10, 10);
        }
        check.due("no way to the last hall", house.way(0, 5, 0, 0), -1);
        check.due("the 16th train", house.train(4, 5, 20, 1), 15);
        check.due("a way by it", house.way(0, 5, 0, 0), 21);
        check.due("cancel of it", house.cancel(15, 0), 0);
        check.due("a day later", house.way(0, 5, 0, 1), 45);
        check.due("cancel of a 17th", house.cancel(16, 0), -1);
        check.due("to a 7th hall", house.way(0, 6, 0, 0), -1);
        check.due("from a 7th hall", house.way(6, 0, 0, 0), -1);
        check.due("in the last hall", house.way(5, 5, 700, 0), 700);
    }

    /** "60 days, from that HOUR's on, are looked at": of the ways that can be told the last TRAIN of the longest leaves on day 50 */
    private static void longestWay(Check check) {
        LanternHouse house = withHalls(new LanternHouse(), 6);
        int[] hours = {23, 4, 9, 14, 19};
        for (int i = 0; i < 5; i++) {
            house.train(i, i + 1, hours[i], 30);
            for (int day = 0; day <= 40; day++) {
                house.cancel(i, day);
            }
        }
        int[] arrivals = {0, 24 * 41 + 53, 24 * 44 + 34, 24 * 46 + 39, 24 * 48 + 44, 24 * 50 + 49};
        for (int hall = 0; hall < 6; hall++) {
            check.due("to hall " + hall, house.way(0, hall, 0, 205), arrivals[hall]);
        }
        check.due("from the last hour", house.way(0, 5, 700, 205), arrivals[5]);
        check.due("all run", house.way(0, 5, 0, 0), 24 * 9 + 49);
    }

    /** "FACTS, numbered from 0 on, 300 at most; as KNOWN by n the first n of them are" */
    private static void factsAsKnown(Check check) {
        LanternHouse house = withHalls(new LanternHouse(), 2);
        house.plate(3);
        house.train(0, 1, 5, 5);
        for (int i = 0; i < 298; i++) {
            check.due("fact " + i, i % 2 == 0 ? house.cancel(0, i % 40) : house.look(0, 1 + i, true), i);
        }
        check.due("the 299th", house.cancel(0, 37), 298);
        check.due("the 300th", house.look(0, 0, false), 299);
        check.due("a 301st look", house.look(0, 0, true), -1);
        check.due("a 301st cancel", house.cancel(0, 0), -1);
        check.due("count(3)", house.count(3), 300);
        check.due("broken by 300", house.broken(0, 0, 300), 1);
        check.due("broken by 299", house.broken(0, 0, 299), 0);
        check.due("broken by 301", house.broken(0, 0, 301), -1);
        check.due("way by 0", house.way(0, 1, 0, 0), 10);
        check.due("way by 1", house.way(0, 1, 0, 1), 34);
        check.due("day 37 by 299", house.way(0, 1, 24 * 29, 299), 24 * 29 + 10);
        check.due("make by 300", house.make(300), 0);
        check.due("make by 301", house.make(301), -1);
        check.due("mend by 300", house.mend(300), 0);
        check.due("mend by 301", house.mend(301), -1);
        check.due("can by 301", house.can(0, 301), -1);
        check.due("blame by 300", house.blame(0, 300), -2);
        check.due("blame by 299", house.blame(0, 299), -1);
        check.due("blame by 301", house.blame(0, 301), -1);
    }

    /** "a LOOK at a PLATE at an HOUR (0 .. 700)"; "of its LOOKS up to that HOUR the one at the latest HOUR (of the same the last told)" */
    private static void looksAtTheFirstAndLastHour(Check check) {
        for (int hour : new int[] {0, 1, 350, 699, 700}) {
            LanternHouse house = new LanternHouse();
            house.plate(3);
            check.due("no look", house.broken(0, hour, 0), 0);
            check.due("look at " + hour, house.look(0, hour, false), 0);
            check.due("at it", house.broken(0, hour, 1), 1);
            check.due("ahead of it", house.broken(0, hour - 1, 1), hour == 0 ? -1 : 0);
            check.due("behind it", house.broken(0, hour + 1, 1), hour == 700 ? -1 : 1);
            check.due("not known", house.broken(0, hour, 0), 0);
            check.due("whole at it", house.look(0, hour, true), 1);
            check.due("the last told", house.broken(0, hour, 2), 0);
            check.due("by one less", house.broken(0, hour, 1), 1);
            check.due("by none", house.broken(0, hour, 0), 0);
        }
    }

    /** "PLATES, 20 at most, of a KIND (0 .. 29): at HALL 0 from HOUR 0 on" */
    private static void platesStartAtTheHouse(Check check) {
        for (int takes = 17; takes <= 19; takes++) {
            LanternHouse house = withHalls(Check.houseWith(ONE), 2);
            house.plate(1);
            house.train(0, 1, 0, takes);
            house.cleaning(24);
            house.show(0, 1, 0, 0, 7);
            check.due("from hour 0 for " + takes, house.can(1, 0), takes <= 18 ? 7 : -2);
        }
        LanternHouse house = withHalls(Check.houseWith(ONE), 2);
        house.plate(1);
        house.train(1, 0, 0, 1);
        house.show(0, 0, 0, 0, 7);
        house.show(27, 1, 0, 0, 9);
        check.due("at the house in night 0", house.can(1, 0), 7);
        check.due("not at the other hall", house.can(2, 0), -2);
        for (int kind : new int[] {0, 29}) {
            LanternHouse other = Check.houseWith("lecture a;must " + kind + " for 1;end");
            check.due("plate of kind " + kind, other.plate(kind), 0);
            other.show(0, 0, 0, 0, 7);
            check.due("make with it", other.make(0), 7);
            check.due("its plate", other.cue(0, 0, 0), 0);
            check.due("its kind", other.cue(0, 0, 1), kind);
        }
    }

    private static void lastPlate(Check check) {
        LanternHouse house = Check.houseWith("lecture a;must 29 for 1;end");
        for (int i = 0; i < 19; i++) {
            house.plate(28);
        }
        house.show(0, 0, 0, 1, 7);
        check.due("none of that kind", house.can(1, 0), -2);
        check.due("the 20th", house.plate(29), 19);
        check.due("a 21st", house.plate(29), -1);
        check.due("make", house.make(0), 7);
        check.due("cue", house.cue(0, 0, 0), 19);
        check.due("where", house.where(19, 700), 0);
        check.due("where of a 21st", house.where(20, 700), -1);
        check.due("look at it", house.look(19, 20, false), 0);
        check.due("look at a 21st", house.look(20, 20, false), -1);
        check.due("broken", house.broken(19, 20, 1), 1);
        check.due("broken of the 19th", house.broken(18, 20, 1), 0);
        check.due("broken of a 21st", house.broken(20, 20, 1), -1);
        check.due("blame", house.blame(19, 1), 0);
        check.due("blame of a 21st", house.blame(20, 1), -1);
    }

    // ---- III.

    /** "Its PLATES must be in its HALL by HOUR 24 * NIGHT + 18" */
    private static void dueHours(Check check) {
        for (int night : new int[] {0, 1, 13, 26, 27}) {
            for (int comes : new int[] {17, 18, 19}) {
                LanternHouse house = withHalls(Check.houseWith(ONE), 2);
                house.plate(1);
                house.train(0, 1, comes - 1, 1);
                // it runs no sooner than on that day
                for (int day = 0; day < night; day++) {
                    house.cancel(0, day);
                }
                check.due("show", house.show(night, 1, 0, 1, 7), 0);
                check.due("at " + comes + " in night " + night, house.can(1, night), comes <= 18 ? 7 : -2);
                check.due("make", house.make(night), comes <= 18 ? 7 : 0);
                check.due("where at the hour", house.where(0, 24 * night + 18), comes <= 18 ? 1 : 0);
                check.due("where ahead of it", house.where(0, 24 * night + 17), 0);
                house.look(0, 24 * night + comes, false);
                check.due("blame for the way", house.blame(0, night + 1), comes <= 18 ? 100 : -2);
                house.look(0, 24 * night + comes - 1, false);
                check.due("ahead of it", house.blame(0, night + 2), -2);
            }
        }
    }

    /** "not BROKEN at the HOUR by which it must be there" */
    private static void brokenAtTheDueHour(Check check) {
        for (int night : new int[] {0, 27}) {
            int due = 24 * night + 18;
            for (int hour = due - 1; hour <= due + 1; hour++) {
                LanternHouse house = Check.houseWith(ONE);
                house.plate(1);
                house.show(night, 0, 0, 1, 7);
                house.look(0, hour, false);
                house.look(0, hour, true);
                check.due("broken at " + hour, house.can(1, 1), hour <= due ? -2 : 7);
                check.due("not known", house.can(1, 0), 7);
                check.due("whole at it", house.can(1, 2), 7);
                check.due("made as known", house.make(1), hour <= due ? 0 : 7);
                check.due("mended as known", house.mend(2), hour <= due ? 1 : 0);
            }
        }
    }

    /** "they are free there from 24 * NIGHT + 23 on, and as many HOURS later as CLEANING takes (0 .. 24, 0 at first)" */
    private static void freeHours(Check check) {
        for (int cleaning = -1; cleaning <= 24; cleaning++) {
            for (int leaves : new int[] {0, 11, 22, 23}) {
                LanternHouse house = withHalls(Check.houseWith(ONE), 2);
                house.plate(1);
                house.train(0, 1, leaves, 1);
                house.show(4, 1, 0, 1, 7);
                house.show(0, 0, 0, 1, 7);
                if (cleaning >= 0) {
                    check.due("cleaning(" + cleaning + ")", house.cleaning(cleaning), true);
                }
                check.due("make", house.make(0), 14);
                int free = 23 + Math.max(0, cleaning);
                int comes = free + Math.floorMod(leaves - free, 24) + 1;
                house.look(0, comes - 1, true);
                house.look(0, comes, false);
                // SHOW 1 is at 20, ahead of what is looked at
                check.due("the way ends at " + comes, house.blame(0, 2), 100);
            }
        }
    }

    private static void cleaningAtItsEdges(Check check) {
        LanternHouse house = Check.houseWith(ONE);
        house.plate(1);
        house.show(25, 0, 0, 0, 1);
        house.show(26, 0, 0, 0, 2);
        house.show(27, 0, 0, 0, 4);
        check.due("0 at first", house.can(7, 0), 7);
        for (int cleaning = 0; cleaning <= 24; cleaning++) {
            check.due("cleaning(" + cleaning + ")", house.cleaning(cleaning), true);
            check.due("the night behind", house.can(6, 0), cleaning <= 19 ? 6 : -2);
            check.due("two nights behind", house.can(5, 0), 5);
            check.due("all", house.can(7, 0), cleaning <= 19 ? 7 : -2);
        }
        check.due("cleaning(25)", house.cleaning(25), false);
        check.due("still 24", house.can(6, 0), -2);
        check.due("cleaning(19)", house.cleaning(19), true);
        check.due("cleaning(-1)", house.cleaning(-1), false);
        check.due("still 19", house.can(6, 0), 6);
        check.due("make by 19", house.make(0), 7);
        check.due("cleaning(20)", house.cleaning(20), true);
        check.due("mend by 20", house.mend(0), 1);
        check.due("night 26 is out", house.told(1, 5), 0);
    }

    /** A new text is in place of the one ahead; CLEANING and what is told else stay. */
    private static void cleaningStaysBehindAText(Check check) {
        LanternHouse house = withHalls(Check.houseWith(ONE), 2);
        house.plate(1);
        house.train(0, 1, 0, 1);
        house.cleaning(20);
        house.cancel(0, 0);
        house.look(0, 3, false);
        check.due("another text", Check.read(house, "lecture b;must 1 for 2;end"), 0);
        house.show(0, 0, 0, 1, 1);
        house.show(1, 0, 0, 1, 1);
        check.due("cleaning is 20 still", house.can(3, 0), -2);
        check.due("the look is there still", house.can(1, 2), -2);
        check.due("the cancel is there still", house.way(0, 1, 0, 1), 25);
        check.due("halls", house.count(0), 2);
        check.due("trains", house.count(1), 1);
        check.due("plates", house.count(2), 1);
        check.due("facts", house.count(3), 2);
    }

    /** "SHOWS, 8 at most"; a set of them is of their bits */
    private static void setsAtTheirEdges(Check check) {
        LanternHouse house = Check.houseWith("lecture a;end");
        for (int i = 0; i < 8; i++) {
            check.due("the first set that is none", house.can(1 << i, 0), -1);
            check.due("show " + i, house.show(20 - i, 0, 0, 500, 1000), i);
            check.due("it house", house.can(1 << i, 0), 1000);
            check.due("all of them", house.can((2 << i) - 1, 0), 1000 * (i + 1));
            check.due("one more than there are", house.can(2 << i, 0), -1);
        }
        check.due("a ninth", house.show(0, 0, 0, 0, 0), -1);
        check.due("set 255", house.can(255, 0), 8000);
        check.due("set 256", house.can(256, 0), -1);
        check.due("set 257", house.can(257, 0), -1);
        check.due("set -1", house.can(-1, 0), -1);
        check.due("set of the sign house", house.can(1 << 31, 0), -1);
        check.due("set of the sign and 0", house.can(1 << 31 | 1, 0), -1);
        check.due("the empty set", house.can(0, 0), 0);
        check.due("make", house.make(0), 8000);
        check.due("kept", house.count(6), 8);
        check.due("the last one", house.told(7, 5), 1);
        check.due("a ninth's", house.told(8, 5), -1);
        check.due("its showing", house.showing(7, 0), 0);
        check.due("a ninth's showing", house.showing(8, 0), -1);
    }

    // ---- II. and IV.

    /** 8 CUES of 3 KINDS, 30 MINUTES and as long a fade, and 4 HIRES: GAS for all of them is 480 */
    private static void fullLecture(Check check) {
        String text = "lecture a;" + Check.times(8, "may 0 or 1 or 29 for 30 fade 30;")
                + "hire 1 if shown<1;hire 2 if shown<7;hire 3 if shown==7;hire minutes*gas;end";
        for (int gas : new int[] {0, 59, 60, 61, 119, 120, 419, 420, 479, 480, 481, 500}) {
            LanternHouse house = Check.houseWith(text);
            for (int i = 0; i < 8; i++) {
                house.plate(29);
            }
            int shown = Math.min(8, gas / 60);
            check.due("show with " + gas, house.show(27, 0, 0, gas, 1000), 0);
            check.due("make", house.make(0), 1000);
            int[] due = {shown, 8 - shown, shown, 30 * shown, 60 * shown,
                shown < 1 ? 1 : shown < 7 ? 2 : shown == 7 ? 3 : 240 * 480, shown == 8 ? -1 : shown,
                shown < 1 ? 0 : shown < 7 ? 1 : shown == 7 ? 2 : 3};
            for (int what = 0; what < 8; what++) {
                check.due("showing " + what + " with " + gas, house.showing(0, what), due[what]);
            }
            for (int i = 0; i < 8; i++) {
                check.due("plate of " + i, house.cue(0, i, 0), i);
                check.due("kind of " + i, house.cue(0, i, 1), 29);
                check.due("begin of " + i, house.cue(0, i, 2), 30 * i);
                check.due("shown " + i, house.cue(0, i, 3), i < shown ? 1 : 0);
                check.due("instead " + i, house.cue(0, i, 4), 1);
            }
            check.due("a ninth cue", house.cue(0, 8, 3), -1);
            check.due("missed in what is made", house.count(7), 0);
            check.due("instead in what is made", house.count(8), 8);
        }
    }

    private static void nothingAtAll(Check check) {
        LanternHouse house = new LanternHouse();
        check.due("way in the house", house.way(0, 0, 0, 0), 0);
        check.due("way to a second hall", house.way(0, 1, 0, 0), -1);
        check.due("train", house.train(0, 1, 0, 1), -1);
        check.due("cancel", house.cancel(0, 0), -1);
        check.due("look", house.look(0, 0, true), -1);
        check.due("broken", house.broken(0, 0, 0), -1);
        check.due("show", house.show(0, 0, 0, 0, 0), -1);
        check.due("the empty set", house.can(0, 0), 0);
        check.due("a set", house.can(1, 0), -1);
        check.due("told", house.told(0, 0), -1);
        check.due("cue", house.cue(0, 0, 0), -1);
        check.due("showing", house.showing(0, 0), -1);
        check.due("blame", house.blame(0, 0), -1);
        check.due("where", house.where(0, 0), -1);
        check.due("kept", house.count(6), -1);
        check.due("mend", house.mend(0), -1);
        check.due("back of nothing", house.back(0), 0);
        check.due("make", house.make(0), 0);
        check.due("kept then", house.count(6), 0);
        check.due("missed then", house.count(7), 0);
        check.due("instead then", house.count(8), 0);
        check.due("mend then", house.mend(0), 0);
        check.due("told then", house.told(0, 5), -1);
        check.due("blame then", house.blame(0, 0), -1);
        check.due("where then", house.where(0, 0), -1);
        check.due("a plate", house.plate(0), 0);
        check.due("where is it", house.where(0, 0), 0);
        check.due("a text of nothing", house.read(), 0);
        check.due("and where then", house.where(0, 0), -1);
        check.due("nothing is made", house.count(6), -1);
    }

    /** All that can be told is told at once, by a text of 600 TOKENS: some 440 calls, and fewer than 72 behind them. */
    private static void everythingFull(Check check) {
        LanternHouse house = withHalls(new LanternHouse(), 6);
        for (int i = 0; i < 16; i++) {
            house.train(i % 6, (i + 1) % 6, i, 1);
        }
        for (int i = 0; i < 20; i++) {
            house.plate(i + 10);
        }
        StringBuilder text = new StringBuilder();
        for (char name = 'a'; name < 'g'; name++) {
            text.append("lecture ").append(name).append(";");
            for (int cue = 0; cue < 8; cue++) {
                text.append(cue < 4 ? "may " : "must ").append(10 + cue).append(" or ").append(20 + cue);
                text.append(cue < 4 ? " or 9 for 30 fade 30;" : " or 9 for 30;");
            }
            text.append("hire 1 if 1<1;hire worth;hire 2;hire 3;end\n");
        }
        check.due("read", Check.read(house, text.toString()), 0);
        for (int i = 0; i < 8; i++) {
            check.due("show " + i, house.show(27 - i, i % 6, i % 6, 500, 1000), i);
        }
        for (int i = 0; i < 300; i++) {
            int fact = i % 3 == 0 ? house.cancel(i % 16, 40) : house.look(i % 20, 700, i % 2 == 0);
            check.due("fact " + i, fact, i);
        }
        check.due("hall", house.hall(), -1);
        check.due("train", house.train(0, 1, 0, 1), -1);
        check.due("plate", house.plate(0), -1);
        check.due("cancel", house.cancel(0, 0), -1);
        check.due("look", house.look(0, 0, true), -1);
        check.due("show", house.show(0, 0, 0, 0, 0), -1);
        int[] counts = {6, 16, 20, 300, 6, 8, -1, -1, -1, 0};
        for (int what = 0; what < 10; what++) {
            check.due("count(" + what + ")", house.count(what), counts[what]);
        }
        check.due("all shows", house.can(255, 300), 8000);
        check.due("make", house.make(300), 8000);
        check.due("kept", house.count(6), 8);
        check.due("missed", house.count(7), 0);
        check.due("instead", house.count(8), 0);
        check.due("mend", house.mend(300), 0);
        for (int i = 0; i < 8; i++) {
            check.due("hire of " + i, house.showing(i, 5), 1000);
            check.due("gas of " + i, house.showing(i, 4), 360);
        }
        check.due("where at night 20", house.where(0, 498), 1);
        check.due("where at night 27", house.where(0, 700), 0);
        check.due("where a plate is that no show has", house.where(9, 700), 0);
    }

    /** "An object is used for at most 512 calls": the last of them is answered as the first */
    private static void lastCallOfAll(Check check) {
        LanternHouse house = new LanternHouse();
        for (int call = 1; call <= 511; call += 7) {
            check.due("feed, call " + call, house.feed(0x6c656374, 0x75726520, 0x613b6869, 0x72652037, 0x3b656e64), 20);
            check.due("read", house.read(), 0);
            check.due("show", house.show(0, 0, 0, 9, 5), 0);
            check.due("make", house.make(0), 5);
            check.due("hire", house.showing(0, 5), 7);
            check.due("back", house.back(1), -1);
            check.due("count", house.count(5), 1);
        }
        check.due("the 512th", house.count(6), 1);
    }
}
