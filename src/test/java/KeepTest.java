/** Promises 9 (cleaning), 15 (can), 16 (make) and 17 (mend). */
public final class KeepTest {
    public static void main(String[] args) {
        Check check = new Check();
        cleaning(check);
        cleaningIsThatOfTheMaking(check);
        wrongSets(check);
        onePlateTwoNights(check);
        nightsGoAheadOfNumbers(check);
        leastPlateOfTheFirstKind(check);
        plateIsInAShowOnce(check);
        brokenPlates(check);
        waysByTheDueHour(check);
        mostWorth(check);
        fewestMissed(check);
        fewestInstead(check);
        firstByWhoIsIn(check);
        mending(check);
        mendingThenAsMaking(check);
        mendingStaysWithWhatIsWorthNothing(check);
        noKindsButThoseOfTheCue(check);
        madeAnewWithoutAStandIn(check);
        wrongMakings(check);
        check.end();
    }

    private static void cleaning(Check check) {
        LanternHouse house = Check.houseWith("lecture a;must 1 for 1;end");
        house.plate(1);
        house.show(0, 0, 0, 0, 1);
        house.show(1, 0, 0, 0, 1);
        house.show(2, 0, 0, 0, 1);
        check.due("0 at first", house.can(3, 0), 2);
        check.due("cleaning(19)", house.cleaning(19), true);
        check.due("just by the hour", house.can(3, 0), 2);
        check.due("cleaning(20)", house.cleaning(20), true);
        check.due("an hour late", house.can(3, 0), -2);
        check.due("two nights on", house.can(5, 0), 2);
        check.due("cleaning(25)", house.cleaning(25), false);
        check.due("cleaning(-1)", house.cleaning(-1), false);
        check.due("still 20", house.can(3, 0), -2);
        check.due("cleaning(24)", house.cleaning(24), true);
        check.due("two nights on, 24", house.can(5, 0), 2);
        check.due("cleaning(0)", house.cleaning(0), true);
        check.due("all", house.can(7, 0), 3);
    }

    private static void cleaningIsThatOfTheMaking(Check check) {
        LanternHouse house = Check.houseWith("lecture a;must 1 for 1;end");
        house.plate(1);
        house.show(0, 0, 0, 0, 1);
        house.show(1, 0, 0, 0, 1);
        house.make(0);
        house.cleaning(24);
        check.due("what is made stays", house.count(6), 2);
        check.due("and its plates", house.cue(1, 0, 0), 0);
        check.due("can", house.can(3, 0), -2);
        check.due("and stays still", house.count(6), 2);
    }

    private static void wrongSets(Check check) {
        LanternHouse house = Check.houseWith("lecture a;end");
        check.due("the empty set", house.can(0, 0), 0);
        check.due("a set without shows", house.can(1, 0), -1);
        house.show(0, 0, 0, 0, 9);
        house.show(1, 0, 0, 0, 90);
        check.due("both", house.can(3, 0), 99);
        check.due("a third", house.can(4, 0), -1);
        check.due("set -1", house.can(-1, 0), -1);
        check.due("the least set", house.can(Integer.MIN_VALUE, 0), -1);
        check.due("n -1", house.can(3, -1), -1);
        check.due("n 1", house.can(3, 1), -1);
        check.due("nothing is made by it", house.count(6), -1);
    }

    private static void onePlateTwoNights(Check check) {
        LanternHouse house = Check.houseWith("lecture a;must 1 for 1;end");
        house.hall();
        house.hall();
        house.plate(1);
        house.train(0, 1, 0, 18);
        house.train(1, 2, 23, 18);
        house.show(0, 1, 0, 0, 1);
        house.show(1, 2, 0, 0, 1);
        house.show(0, 0, 0, 0, 1);
        house.show(9, 0, 0, 0, 1);
        check.due("by the hour itself, from hour 0", house.can(1, 0), 1);
        check.due("from where it was free", house.can(3, 0), 2);
        check.due("not two halls in a night", house.can(5, 0), -2);
        check.due("never back", house.can(9, 0), -2);
        check.due("it never left", house.can(12, 0), 2);
        house.cleaning(1);
        check.due("the train has left", house.can(3, 0), -2);
        check.due("nor by itself: night 1 is too late", house.can(2, 0), 1);
    }

    private static void nightsGoAheadOfNumbers(Check check) {
        LanternHouse house = Check.houseWith("lecture a;may 1 for 1;end");
        house.plate(1);
        house.hall();
        house.train(1, 0, 0, 1);
        house.train(0, 1, 0, 1);
        house.show(3, 0, 0, 0, 1);
        house.show(1, 0, 0, 0, 1);
        house.show(3, 1, 0, 0, 1);
        house.show(1, 1, 0, 0, 1);
        check.due("make", house.make(0), 4);
        check.due("missed", house.count(7), 2);
        check.due("night 1 has it first", house.cue(1, 0, 0), 0);
        check.due("night 1 has it once", house.cue(3, 0, 0), -1);
        check.due("night 3 then", house.cue(0, 0, 0), 0);
        check.due("night 3 once", house.cue(2, 0, 0), -1);
    }

    private static void leastPlateOfTheFirstKind(Check check) {
        LanternHouse house = Check.houseWith("lecture a;must 4 or 2 or 3 for 1;must 2 or 3 for 1;must 3 for 1;end");
        house.plate(3);
        house.plate(2);
        house.plate(3);
        house.plate(2);
        house.show(0, 0, 0, 0, 5);
        check.due("make", house.make(0), 5);
        check.due("cue 0", house.cue(0, 0, 0), 1);
        check.due("cue 1", house.cue(0, 1, 0), 3);
        check.due("cue 2", house.cue(0, 2, 0), 0);
        check.due("cue 0 is a stand-in", house.cue(0, 0, 4), 1);
        check.due("cue 1 is none", house.cue(0, 1, 4), 0);
        check.due("instead", house.count(8), 1);
        house.plate(4);
        check.due("make again", house.make(0), 5);
        check.due("cue 0 by the own kind", house.cue(0, 0, 0), 4);
        check.due("cue 1 by the least", house.cue(0, 1, 0), 1);
        check.due("instead then", house.count(8), 0);
    }

    private static void plateIsInAShowOnce(Check check) {
        LanternHouse house = Check.houseWith("lecture a;must 1 for 1;must 1 for 1;end lecture b;may 1 for 1;must 1 for 1;end");
        house.plate(1);
        house.show(0, 0, 0, 0, 5);
        house.show(1, 0, 1, 0, 5);
        check.due("two cues, one plate", house.can(1, 0), -2);
        check.due("a may takes it from a must", house.can(2, 0), -2);
        house.plate(1);
        check.due("two plates", house.can(3, 0), 10);
    }

    private static void brokenPlates(Check check) {
        LanternHouse house = Check.houseWith("lecture a;must 1 or 2 for 1;end");
        house.plate(1);
        house.plate(2);
        house.show(1, 0, 0, 0, 5);
        house.look(0, 42, false);
        house.look(1, 43, false);
        house.look(1, 42, false);
        house.look(1, 42, true);
        check.due("make by none", house.make(0), 5);
        check.due("its plate", house.cue(0, 0, 0), 0);
        check.due("make by 1", house.make(1), 5);
        check.due("its stand-in", house.cue(0, 0, 0), 1);
        check.due("broken behind the hour", house.can(1, 2), 5);
        check.due("broken at the hour", house.can(1, 3), -2);
        check.due("whole at the hour", house.can(1, 4), 5);
        check.due("make by 3", house.make(3), 0);
        check.due("kept by 3", house.count(6), 0);
    }

    private static void waysByTheDueHour(Check check) {
        LanternHouse house = Check.houseWith("lecture a;must 1 for 1;end");
        house.hall();
        house.plate(1);
        house.show(1, 1, 0, 0, 5);
        check.due("no train", house.can(1, 0), -2);
        house.train(0, 1, 13, 30);
        check.due("at 43", house.can(1, 0), -2);
        house.train(0, 1, 12, 30);
        check.due("at 42", house.can(1, 0), 5);
        house.cancel(1, 0);
        check.due("known that it does not run", house.can(1, 1), -2);
        check.due("not known", house.can(1, 0), 5);
        house.train(0, 1, 18, 1);
        check.due("at 19 by the third", house.can(1, 1), 5);
    }

    private static void mostWorth(Check check) {
        LanternHouse house = Check.houseWith("lecture a;must 1 for 1;end");
        house.hall();
        house.hall();
        house.plate(1);
        house.train(0, 1, 0, 1);
        house.train(0, 2, 0, 1);
        house.show(0, 0, 0, 0, 10);
        house.show(0, 1, 0, 0, 30);
        house.show(0, 2, 0, 0, 20);
        house.show(1, 0, 0, 0, 19);
        check.due("make", house.make(0), 30);
        check.due("the one", house.told(1, 5), 1);
        check.due("kept", house.count(6), 1);
        house.show(2, 0, 0, 0, 2);
        check.due("make with one more", house.make(0), 31);
        check.due("kept 0", house.told(0, 5), 1);
        check.due("kept 3", house.told(3, 5), 1);
        check.due("kept 4", house.told(4, 5), 1);
    }

    private static void fewestMissed(Check check) {
        LanternHouse house = Check.houseWith("lecture a;must 1 for 1;may 2 for 1;end lecture b;must 1 for 1;may 3 or 4 for 1;end");
        house.hall();
        house.plate(1);
        house.plate(4);
        house.train(0, 1, 0, 1);
        house.show(0, 0, 0, 0, 10);
        house.show(0, 1, 1, 0, 10);
        check.due("make", house.make(0), 10);
        check.due("the other one, with a stand-in", house.told(1, 5), 1);
        check.due("missed", house.count(7), 0);
        check.due("instead", house.count(8), 1);
        house.plate(2);
        check.due("make with a plate more", house.make(0), 10);
        check.due("now the first", house.told(0, 5), 1);
        check.due("missed then", house.count(7), 0);
        check.due("instead then", house.count(8), 0);
        // a show that is worth nothing is left out if it misses a cue
        LanternHouse other = Check.houseWith("lecture a;may 1 for 1;end");
        other.show(0, 0, 0, 0, 0);
        check.due("worth 0", other.make(0), 0);
        check.due("it is left out", other.count(6), 0);
        other.plate(1);
        check.due("worth 0 again", other.make(0), 0);
        check.due("it is in", other.count(6), 1);
    }

    private static void fewestInstead(Check check) {
        LanternHouse house = Check.houseWith("lecture a;must 1 for 1;must 2 or 3 for 1;end lecture b;must 1 for 1;must 3 for 1;end");
        house.hall();
        house.plate(1);
        house.plate(3);
        house.train(0, 1, 0, 1);
        house.show(0, 0, 0, 0, 10);
        house.show(0, 1, 1, 0, 10);
        check.due("make", house.make(0), 10);
        check.due("the one without a stand-in", house.told(1, 5), 1);
        check.due("instead", house.count(8), 0);
        house.plate(2);
        house.make(0);
        check.due("the first by who is in", house.told(0, 5), 1);
    }

    private static void firstByWhoIsIn(Check check) {
        LanternHouse house = Check.houseWith("lecture a;must 1 for 1;end");
        house.hall();
        house.hall();
        house.plate(1);
        house.train(0, 1, 0, 1);
        house.train(0, 2, 0, 1);
        house.train(1, 0, 0, 1);
        house.show(5, 2, 0, 0, 10);
        house.show(0, 1, 0, 0, 5);
        house.show(0, 0, 0, 0, 5);
        house.show(5, 0, 0, 0, 10);
        house.show(5, 1, 0, 0, 10);
        check.due("make", house.make(0), 15);
        check.due("show 0", house.told(0, 5), 1);
        check.due("show 1", house.told(1, 5), 1);
        check.due("kept", house.count(6), 2);
        // who is in goes ahead of how many: the one show of 10 is the least
        LanternHouse other = Check.houseWith("lecture a;must 1 for 1;end");
        other.hall();
        other.plate(1);
        other.train(0, 1, 0, 1);
        other.show(0, 1, 0, 0, 10);
        other.show(0, 0, 0, 0, 5);
        other.show(1, 0, 0, 0, 5);
        check.due("make of the other", other.make(0), 10);
        check.due("the least is in", other.told(0, 5), 1);
        check.due("and alone", other.count(6), 1);
        // worth nothing, costs nothing: it is in
        LanternHouse third = Check.houseWith("lecture a;end");
        third.show(0, 0, 0, 0, 0);
        third.make(0);
        check.due("worth nothing", third.count(6), 1);
    }

    private static void mending(Check check) {
        LanternHouse house = Check.houseWith("lecture a;must 1 for 1;end lecture b;end");
        house.hall();
        house.hall();
        house.plate(1);
        house.train(0, 1, 0, 1);
        house.train(0, 2, 0, 1);
        house.show(0, 0, 0, 0, 10);
        house.show(0, 1, 0, 0, 10);
        house.show(0, 2, 0, 0, 10);
        check.due("make", house.make(0), 10);
        check.due("show 0", house.told(0, 5), 1);
        check.due("mend without a change", house.mend(0), 0);
        house.show(1, 0, 1, 0, 0);
        check.due("a show worth nothing is no change", house.mend(0), 0);
        check.due("it is not in", house.told(3, 5), 0);
        check.due("but making takes it", house.make(0), 10);
        check.due("it is in", house.told(3, 5), 1);
        house.show(2, 1, 0, 0, 10);
        house.train(1, 0, 0, 1);
        check.due("mend to more worth", house.mend(0), 1);
        check.due("show 4 as well", house.told(4, 5), 1);
        house.look(0, 18, false);
        house.look(0, 19, true);
        check.due("mend by what is known", house.mend(2), 1);
        check.due("show 0 is out", house.told(0, 5), 0);
        check.due("show 4 is in", house.told(4, 5), 1);
        check.due("kept", house.count(6), 2);
    }

    private static void mendingThenAsMaking(Check check) {
        // in hall 0 the plate is had, in hall 1 it is missed: of the same change the fewest missed
        LanternHouse house = Check.houseWith("lecture a;must 1 for 1;may 2 for 1;end lecture b;must 1 for 1;end");
        house.hall();
        house.hall();
        house.plate(1);
        house.train(0, 1, 0, 1);
        house.train(0, 2, 0, 1);
        house.show(0, 0, 0, 0, 10);
        check.due("make", house.make(0), 10);
        house.show(0, 1, 0, 0, 11);
        house.show(0, 2, 1, 0, 11);
        check.due("mend", house.mend(0), 2);
        check.due("the fewest missed", house.told(2, 5), 1);
        check.due("missed", house.count(7), 0);
        // what was made stays ahead of the fewest missed
        LanternHouse other = Check.houseWith("lecture a;must 1 for 1;may 2 for 1;end lecture b;must 1 for 1;end");
        other.hall();
        other.plate(1);
        other.train(0, 1, 0, 1);
        other.show(0, 0, 0, 0, 10);
        other.make(0);
        other.show(0, 1, 1, 0, 10);
        check.due("mend of the other", other.mend(0), 0);
        check.due("the same one", other.told(0, 5), 1);
        check.due("missed of the other", other.count(7), 1);
        check.due("make changes it", other.make(0), 10);
        check.due("to the other one", other.told(1, 5), 1);
    }

    private static void mendingStaysWithWhatIsWorthNothing(Check check) {
        LanternHouse house = Check.houseWith("lecture a;may 1 or 2 for 1;end lecture b;must 3 for 1;end");
        house.plate(1);
        house.plate(2);
        house.show(0, 0, 0, 0, 0);
        check.due("make", house.make(0), 0);
        check.due("it is in", house.told(0, 5), 1);
        house.look(0, 18, false);
        house.look(1, 18, false);
        check.due("mend with a stand-in", house.mend(1), 0);
        check.due("it is in still", house.told(0, 5), 1);
        check.due("instead", house.count(8), 1);
        check.due("mend with a cue that is missed", house.mend(2), 0);
        check.due("and in still", house.told(0, 5), 1);
        check.due("missed", house.count(7), 1);
        check.due("making leaves it out", house.make(2), 0);
        check.due("it is out", house.told(0, 5), 0);
        check.due("mending does not bring it back", house.mend(0), 0);
        check.due("it is out still", house.told(0, 5), 0);
        check.due("making does", house.make(0), 0);
        check.due("it is in again", house.told(0, 5), 1);
    }

    /** PLATES of KINDS that a CUE does not tell, 0 and those of its neighbours among them, do not stand in. */
    private static void noKindsButThoseOfTheCue(Check check) {
        LanternHouse house = Check.houseWith("lecture a;may 3 for 1;may 3 or 4 for 1;may 3 or 4 or 5 for 1;may 6 for 1;end "
                + "lecture b;may 7 for 1;end lecture c;may 9 or 8 or 10 for 1;may 11 for 1;end");
        for (int kind : new int[] {0, 1, 2, 7, 0, 12}) {
            house.plate(kind);
        }
        house.show(0, 0, 0, 9, 1);
        house.show(1, 0, 2, 9, 1);
        check.due("make", house.make(0), 2);
        check.due("missed", house.count(7), 6);
        house.plate(6);
        house.plate(11);
        check.due("make with two plates more", house.make(0), 2);
        check.due("missed then", house.count(7), 4);
        check.due("instead then", house.count(8), 0);
        for (int i = 0; i < 3; i++) {
            check.due("cue " + i, house.cue(0, i, 0), -1);
        }
        check.due("cue 3", house.cue(0, 3, 0), 6);
        check.due("cue 0 of the other", house.cue(1, 0, 0), -1);
        check.due("cue 1 of the other", house.cue(1, 1, 0), 7);
    }

    private static void madeAnewWithoutAStandIn(Check check) {
        LanternHouse house = Check.houseWith("lecture a;may 1 or 2 for 1;end");
        house.plate(2);
        house.show(0, 0, 0, 5, 1);
        house.look(0, 18, false);
        for (int i = 0; i < 4; i++) {
            house.make(0);
            check.due("instead", house.cue(0, 0, 4), 1);
            check.due("count of them", house.count(8), 1);
            check.due("its begin", house.cue(0, 0, 2), 0);
            // what is tried with a stand-in leaves nothing behind either
            check.due("can", house.can(1, 0), 1);
            if (i % 2 == 0) {
                house.make(1);
            } else {
                house.mend(1);
            }
            check.due("missed", house.cue(0, 0, 0), -1);
            check.due("its kind", house.cue(0, 0, 1), -1);
            check.due("its begin then", house.cue(0, 0, 2), -1);
            check.due("not shown", house.cue(0, 0, 3), 0);
            check.due("not instead", house.cue(0, 0, 4), 0);
            check.due("count of none", house.count(8), 0);
            check.due("count of the missed", house.count(7), 1);
        }
    }

    private static void wrongMakings(Check check) {
        LanternHouse house = new LanternHouse();
        check.due("mend ahead of make", house.mend(0), -1);
        check.due("make(1)", house.make(1), -1);
        check.due("make(-1)", house.make(-1), -1);
        check.due("nothing is made", house.count(6), -1);
        check.due("make of nothing", house.make(0), 0);
        check.due("it is made", house.count(6), 0);
        check.due("mend(1)", house.mend(1), -1);
        check.due("mend(-1)", house.mend(-1), -1);
        check.due("mend of nothing", house.mend(0), 0);
        LanternHouse other = Check.houseWith("lecture a;must 1 for 1;end");
        other.plate(1);
        other.show(0, 0, 0, 0, 3);
        other.make(0);
        other.look(0, 0, false);
        check.due("make by too many", other.make(2), -1);
        check.due("changes nothing", other.count(6), 1);
        check.due("mend by too many", other.mend(2), -1);
        check.due("changes nothing either", other.told(0, 5), 1);
    }
}
