/** Promises 12 (show) and 18 (told). */
public final class ShowsTest {
    public static void main(String[] args) {
        Check check = new Check();
        shows(check);
        roomForShows(check);
        told(check);
        newShowIsNotInWhatIsMade(check);
        check.end();
    }

    private static void shows(Check check) {
        check.due("without lectures", new LanternHouse().show(0, 0, 0, 0, 0), -1);
        LanternHouse house = Check.houseWith("lecture a;end lecture b;end");
        house.hall();
        check.due("night -1", house.show(-1, 0, 0, 0, 0), -1);
        check.due("night 28", house.show(28, 0, 0, 0, 0), -1);
        check.due("hall -1", house.show(0, -1, 0, 0, 0), -1);
        check.due("hall 2", house.show(0, 2, 0, 0, 0), -1);
        check.due("lecture -1", house.show(0, 0, -1, 0, 0), -1);
        check.due("lecture 2", house.show(0, 0, 2, 0, 0), -1);
        check.due("gas -1", house.show(0, 0, 0, -1, 0), -1);
        check.due("gas 501", house.show(0, 0, 0, 501, 0), -1);
        check.due("worth -1", house.show(0, 0, 0, 0, -1), -1);
        check.due("worth 1001", house.show(0, 0, 0, 0, 1001), -1);
        check.due("count(5)", house.count(5), 0);
        check.due("the least", house.show(0, 0, 0, 0, 0), 0);
        check.due("the most", house.show(27, 1, 1, 500, 1000), 1);
        check.due("that hall in that night", house.show(0, 0, 1, 5, 5), -1);
        check.due("that hall in another", house.show(1, 0, 1, 5, 5), 2);
        check.due("another hall in that night", house.show(0, 1, 1, 5, 5), 3);
        check.due("count(5) then", house.count(5), 4);
    }

    private static void roomForShows(Check check) {
        LanternHouse house = Check.houseWith("lecture a;end");
        for (int i = 0; i < 8; i++) {
            check.due("show " + i, house.show(27 - i, 0, 0, 0, 1), i);
        }
        check.due("a ninth", house.show(0, 0, 0, 0, 1), -1);
        check.due("all of them", house.make(0), 8);
        check.due("count(5)", house.count(5), 8);
    }

    private static void told(Check check) {
        LanternHouse house = Check.houseWith("lecture a;must 1 for 1;end lecture b;end");
        house.hall();
        house.show(0, 0, 0, 1, 2);
        house.show(7, 1, 1, 300, 900);
        int[] due = {7, 1, 1, 300, 900, 0};
        for (int what = 0; what < 6; what++) {
            check.due("told(1, " + what + ")", house.told(1, what), due[what]);
        }
        check.due("told(1, 6)", house.told(1, 6), -1);
        check.due("told(1, -1)", house.told(1, -1), -1);
        check.due("told(2, 0)", house.told(2, 0), -1);
        check.due("told(-1, 0)", house.told(-1, 0), -1);
        house.make(0);
        check.due("kept", house.told(1, 5), 1);
        check.due("not kept", house.told(0, 5), 0);
        check.due("told(2, 5)", house.told(2, 5), -1);
    }

    private static void newShowIsNotInWhatIsMade(Check check) {
        LanternHouse house = Check.houseWith("lecture a;end");
        house.make(0);
        check.due("show", house.show(0, 0, 0, 0, 3), 0);
        check.due("told(0, 5)", house.told(0, 5), 0);
        check.due("count(6)", house.count(6), 0);
        check.due("mend", house.mend(0), 1);
        check.due("told(0, 5) then", house.told(0, 5), 1);
    }
}
