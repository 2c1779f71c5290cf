/** Promises 19 (cue) and 20 (showing). */
public final class ShowingTest {
    public static void main(String[] args) {
        Check check = new Check();
        minutesAndGas(check);
        darkCues(check);
        missedCues(check);
        hires(check);
        vars(check);
        reckoning(check);
        wrapping(check);
        gasAtItsEdges(check);
        showingsAreApart(check);
        wrongOnes(check);
        check.end();
    }

    private static void row(Check check, LanternHouse house, int i, int... due) {
        for (int what = 0; what < due.length; what++) {
            check.due("cue(0, " + i + ", " + what + ")", house.cue(0, i, what), due[what]);
        }
    }

    private static void whole(Check check, LanternHouse house, int... due) {
        for (int what = 0; what < due.length; what++) {
            check.due("showing(0, " + what + ")", house.showing(0, what), due[what]);
        }
    }

    private static LanternHouse shown(String text, int gas, int worth, int... kinds) {
        LanternHouse house = Check.houseWith(text);
        for (int kind : kinds) {
            house.plate(kind);
        }
        house.show(0, 0, 0, gas, worth);
        house.make(0);
        return house;
    }

    private static void minutesAndGas(Check check) {
        String text = "lecture a;must 7 for 5 fade 2;must 9 or 8 for 30;must 7 for 4 fade 4;end";
        LanternHouse house = shown(text, 45, 1, 8, 7, 7);
        row(check, house, 0, 1, 7, 0, 1, 0);
        row(check, house, 1, 0, 8, 5, 1, 1);
        row(check, house, 2, 2, 7, 35, 1, 0);
        whole(check, house, 3, 0, 1, 39, 45, 0, -1, -1);
    }

    private static void darkCues(Check check) {
        String text = "lecture a;must 7 for 5 fade 2;must 9 or 8 for 30;must 7 for 4 fade 4;end";
        LanternHouse last = shown(text, 44, 1, 8, 7, 7);
        row(check, last, 2, 2, 7, 35, 0, 0);
        whole(check, last, 2, 1, 1, 35, 37, 0, 2, -1);
        // gas for the third one does not help behind a dark one
        LanternHouse middle = shown(text, 36, 1, 8, 7, 7);
        row(check, middle, 0, 1, 7, 0, 1, 0);
        row(check, middle, 1, 0, 8, 5, 0, 1);
        row(check, middle, 2, 2, 7, 35, 0, 0);
        whole(check, middle, 1, 2, 0, 5, 7, 0, 1, -1);
        check.due("instead in what is made", middle.count(8), 1);
        LanternHouse all = shown(text, 0, 1, 8, 7, 7);
        row(check, all, 0, 1, 7, 0, 0, 0);
        whole(check, all, 0, 3, 0, 0, 0, 0, 0, -1);
        check.due("missed in what is made", all.count(7), 0);
    }

    private static void missedCues(Check check) {
        String text = "lecture a;may 1 for 3;must 2 for 4 fade 1;may 1 for 5;must 3 or 2 for 6;may 4 for 2;end";
        LanternHouse house = shown(text, 10, 1, 2, 2);
        row(check, house, 0, -1, -1, -1, 0, 0);
        row(check, house, 1, 0, 2, 0, 1, 0);
        row(check, house, 2, -1, -1, -1, 0, 0);
        row(check, house, 3, 1, 2, 4, 0, 1);
        row(check, house, 4, -1, -1, -1, 0, 0);
        whole(check, house, 1, 4, 0, 4, 5, 0, 3, -1);
        check.due("missed in what is made", house.count(7), 3);
        LanternHouse enough = shown(text, 11, 1, 2, 2);
        whole(check, enough, 2, 3, 1, 10, 11, 0, -1, -1);
        LanternHouse none = shown("lecture a;may 1 for 3;end", 0, 1);
        whole(check, none, 0, 1, 0, 0, 0, 0, -1, -1);
        LanternHouse empty = shown("lecture a;end", 0, 1);
        whole(check, empty, 0, 0, 0, 0, 0, 0, -1, -1);
    }

    private static void hires(Check check) {
        String text = "lecture a;must 1 for 3;hire 10 if shown == 0;hire 20 if missed < 1 and worth <= 5;hire 30 if worth != 7;hire 40;end";
        whole(check, shown(text, 2, 5, 1), 0, 1, 0, 0, 0, 10, 0, 0);
        whole(check, shown(text, 3, 5, 1), 1, 0, 0, 3, 3, 20, -1, 1);
        whole(check, shown(text, 3, 6, 1), 1, 0, 0, 3, 3, 30, -1, 2);
        whole(check, shown(text, 3, 7, 1), 1, 0, 0, 3, 3, 40, -1, 3);
        LanternHouse none = shown("lecture a;hire 5 if 1 < 1;hire 6 if 1 == 1 and 2 <= 1;end", 0, 1);
        check.due("none holds", none.showing(0, 5), 0);
        check.due("its number", none.showing(0, 7), -1);
        LanternHouse second = Check.houseWith("lecture a;hire 1;end lecture b;hire 2 if 2 < 1;hire 3;end");
        second.show(0, 0, 1, 0, 1);
        second.show(1, 0, 0, 0, 1);
        second.make(0);
        check.due("hire of the second lecture", second.showing(0, 5), 3);
        check.due("its number within it", second.showing(0, 7), 1);
        check.due("hire of the first lecture", second.showing(1, 5), 1);
    }

    private static void vars(Check check) {
        String cues = "lecture a;must 1 for 7 fade 2;may 9 for 3;must 8 or 2 for 5;must 3 for 30;";
        String[] names = {"shown", "missed", "instead", "minutes", "gas", "worth"};
        int[] due = {2, 2, 1, 12, 14, 77};
        for (int i = 0; i < names.length; i++) {
            LanternHouse house = shown(cues + "hire " + names[i] + ";end", 43, 77, 1, 2, 3);
            check.due(names[i], house.showing(0, 5), due[i]);
        }
    }

    private static void reckons(Check check, String sum, int due) {
        check.due(sum, shown("lecture a;hire " + sum + ";end", 0, 1000).showing(0, 5), due);
    }

    private static void holds(Check check, String relation, boolean due) {
        LanternHouse house = shown("lecture a;hire 3 if " + relation + ";end", 0, 1000);
        check.due(relation, house.showing(0, 5), due ? 3 : 0);
    }

    private static void reckoning(Check check) {
        reckons(check, "1+2*3", 7);
        reckons(check, "2*3+1", 7);
        reckons(check, "(1+2)*3", 9);
        reckons(check, "10-3-2", 5);
        reckons(check, "10-(3-2)", 9);
        reckons(check, "10-2*3+1", 5);
        reckons(check, "2*(3-5)*4-1", -17);
        reckons(check, "0007", 7);
        reckons(check, "1-2*(3-4*(5-6*(7-8*(9-9*(1-2*3)))))", 1 - 2 * (3 - 4 * (5 - 6 * (7 - 8 * (9 - 9 * (1 - 2 * 3))))));
        reckons(check, "9999*9999*9999", 9999 * 9999 * 9999);
        reckons(check, "0-9999*9999*99-9999*9999", -9999 * 9999 * 99 - 9999 * 9999);
        reckons(check, "worth*worth*worth*worth", (int) 1000000000000L);
        String deep = "1+2*(3-4*(5+6*(7-8*(9+1*(2-3*(4+5*6))))))";
        int deepDue = 1 + 2 * (3 - 4 * (5 + 6 * (7 - 8 * (9 + 1 * (2 - 3 * (4 + 5 * 6))))));
        reckons(check, deep, deepDue);
        reckons(check, deep + " if " + deep + " == " + deep, deepDue);
        holds(check, deep + " == " + deep, true);
        holds(check, deep + " < " + deep + " and 1 == 1", false);
        holds(check, "1 == 1", true);
        holds(check, "1 == 2", false);
        holds(check, "1 != 1", false);
        holds(check, "1 != 2", true);
        holds(check, "1 < 1", false);
        holds(check, "1 < 2", true);
        holds(check, "2 < 1", false);
        holds(check, "1 <= 1", true);
        holds(check, "1 <= 2", true);
        holds(check, "2 <= 1", false);
        holds(check, "1 - 2 < 0", true);
        holds(check, "9999 * 9999 * 30 < 0", true);
        holds(check, "1 + 1 == 2 and 2 * 3 == 6 and 3 - 4 < 0", true);
        holds(check, "1 + 1 == 2 and 2 * 3 == 7 and 3 - 4 < 0", false);
        holds(check, "1 + 1 == 3 and 2 * 3 == 6", false);
    }

    /** "Ints of 32 bits that wrap" */
    private static void wrapping(Check check) {
        String least = "(8192*8*(8192*4))";
        String most = "(" + least + "-1)";
        reckons(check, least, Integer.MIN_VALUE);
        reckons(check, most, Integer.MAX_VALUE);
        reckons(check, most + "+1", Integer.MIN_VALUE);
        reckons(check, most + "+" + most, -2);
        reckons(check, least + "+" + least, 0);
        reckons(check, least + "-" + most, 1);
        reckons(check, most + "-" + least, -1);
        reckons(check, "0-" + least, Integer.MIN_VALUE);
        reckons(check, "0-" + most + "-1", Integer.MIN_VALUE);
        reckons(check, "0-" + most + "-2", Integer.MAX_VALUE);
        reckons(check, least + "*(0-1)", Integer.MIN_VALUE);
        reckons(check, least + "*2", 0);
        reckons(check, most + "*2", -2);
        reckons(check, most + "*" + most, 1);
        reckons(check, "8192*8*(8192*8)", 0);
        reckons(check, "(9999*4+6344)*(9999*4+6344)", 46340 * 46340);
        reckons(check, "(9999*4+6345)*(9999*4+6345)", -2147479015);
        reckons(check, "9999*9999*21", 2099580021);
        reckons(check, "9999*9999*22", -2095407274);
        holds(check, least + " < " + most, true);
        holds(check, most + " < " + least, false);
        holds(check, least + " < 1", true);
        holds(check, least + " <= 1", true);
        holds(check, "1 < " + least, false);
        holds(check, "1 <= " + least, false);
        holds(check, least + " <= " + least, true);
        holds(check, most + " <= " + most, true);
        holds(check, most + " + 1 < " + most, true);
        holds(check, most + " + 1 == " + least, true);
        holds(check, least + " - 1 == " + most, true);
        holds(check, least + " - 1 != " + most, false);
        holds(check, "0 - 1 < 0", true);
        holds(check, "0 - 1 < 0 - 1", false);
        holds(check, "0 - 1 <= 0 - 2", false);
    }

    /** "A CUE is shown if GAS is there for all of its MINUTES; the first one for which it is not, and all behind, are DARK" */
    private static void gasAtItsEdges(Check check) {
        int[] burnt = {1, 3, 6, 7, 9};
        String text = "lecture a;must 1 for 1;must 1 for 1 fade 1;must 1 for 2 fade 1;must 1 for 1 fade 0;must 1 for 2;end";
        int[] minutes = {0, 1, 2, 4, 5, 7};
        for (int gas = 0; gas <= 10; gas++) {
            LanternHouse house = shown(text, gas, 1, 1, 1, 1, 1, 1);
            int count = 0;
            while (count < 5 && burnt[count] <= gas) {
                count++;
            }
            whole(check, house, count, 5 - count, 0, minutes[count], count == 0 ? 0 : burnt[count - 1], 0,
                    count == 5 ? -1 : count, -1);
            for (int i = 0; i < 5; i++) {
                row(check, house, i, i, 1, minutes[i], i < count ? 1 : 0, 0);
            }
        }
    }

    /** What is asked of one SHOW is not in what is answered of another one. */
    private static void showingsAreApart(Check check) {
        LanternHouse house = Check.houseWith("lecture a;must 1 for 2;must 2 or 1 for 3;hire 5 if shown==2;end lecture b;end");
        house.plate(1);
        house.plate(1);
        house.show(0, 0, 0, 5, 1);
        house.show(1, 0, 0, 4, 1);
        house.show(2, 0, 1, 5, 1);
        house.make(0);
        int[][] due = {{2, 0, 1, 5, 5, 5, -1, 0}, {1, 1, 0, 2, 2, 0, 1, -1}, {0, 0, 0, 0, 0, 0, -1, -1}};
        for (int what = 0; what < 8; what++) {
            for (int show : new int[] {0, 1, 2, 1, 0, 2, 0}) {
                check.due("showing(" + show + ", " + what + ")", house.showing(show, what), due[show][what]);
            }
        }
    }

    private static void wrongOnes(Check check) {
        LanternHouse house = Check.houseWith("lecture a;must 1 for 1;end lecture b;may 1 for 1;end");
        house.show(0, 0, 0, 9, 9);
        house.show(1, 0, 1, 9, 9);
        check.due("cue ahead of make", house.cue(1, 0, 3), -1);
        check.due("showing ahead of make", house.showing(1, 0), -1);
        house.make(0);
        check.due("cue, not kept", house.cue(0, 0, 3), -1);
        check.due("showing, not kept", house.showing(0, 0), -1);
        check.due("cue, kept", house.cue(1, 0, 3), 0);
        check.due("cue -1", house.cue(1, -1, 3), -1);
        check.due("cue 1", house.cue(1, 1, 3), -1);
        check.due("cue 8", house.cue(1, 8, 3), -1);
        check.due("cue, what -1", house.cue(1, 0, -1), -1);
        check.due("cue, what 5", house.cue(1, 0, 5), -1);
        check.due("cue, show -1", house.cue(-1, 0, 3), -1);
        check.due("cue, show 2", house.cue(2, 0, 3), -1);
        check.due("cue, show 33", house.cue(33, 0, 3), -1);
        check.due("showing, show -1", house.showing(-1, 0), -1);
        check.due("showing, show 2", house.showing(2, 0), -1);
        check.due("showing, what -1", house.showing(1, -1), -1);
        check.due("showing, what 8", house.showing(1, 8), -1);
        check.due("showing, missed", house.showing(1, 1), 1);
    }
}
