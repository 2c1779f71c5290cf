/** Promises 2 (feed), 3 (back) and what a read leaves of the tape. */
public final class TapeTest {
    public static void main(String[] args) {
        Check check = new Check();
        growsByTwenty(check);
        isFullAtThreeThousand(check);
        goesBack(check);
        holdsBytesInOrder(check);
        check.end();
    }

    private static void growsByTwenty(Check check) {
        LanternHouse house = new LanternHouse();
        check.due("feed 1", house.feed(0, 0, 0, 0, 0), 20);
        check.due("feed 2", house.feed(-1, -1, -1, -1, -1), 40);
        check.due("count(9)", house.count(9), 40);
    }

    private static void isFullAtThreeThousand(Check check) {
        LanternHouse house = new LanternHouse();
        for (int i = 1; i <= 150; i++) {
            check.due("feed to " + 20 * i, house.feed(1, 2, 3, 4, 5), 20 * i);
        }
        check.due("feed beyond", house.feed(1, 2, 3, 4, 5), -1);
        check.due("count(9)", house.count(9), 3000);
        check.due("back(19)", house.back(19), 2981);
        check.due("feed with 19 free", house.feed(1, 2, 3, 4, 5), -1);
        check.due("count(9) after it", house.count(9), 2981);
        check.due("back(1)", house.back(1), 2980);
        check.due("feed with 20 free", house.feed(1, 2, 3, 4, 5), 3000);
        check.due("read", house.read(), 1);
        check.due("feed after read", house.feed(1, 2, 3, 4, 5), 20);
    }

    private static void goesBack(Check check) {
        LanternHouse house = new LanternHouse();
        check.due("back(0), empty", house.back(0), 0);
        check.due("back(1), empty", house.back(1), -1);
        house.feed(0, 0, 0, 0, 0);
        check.due("back(-1)", house.back(-1), -1);
        check.due("back(least)", house.back(Integer.MIN_VALUE), -1);
        check.due("back(most)", house.back(Integer.MAX_VALUE), -1);
        check.due("back(21)", house.back(21), -1);
        check.due("back(0)", house.back(0), 20);
        check.due("back(7)", house.back(7), 13);
        check.due("back(14)", house.back(14), -1);
        check.due("back(13)", house.back(13), 0);
        check.due("count(9)", house.count(9), 0);
    }

    private static void holdsBytesInOrder(Check check) {
        LanternHouse house = new LanternHouse();
        // "lecture abcd;end" and four bytes that go again
        house.feed(0x6c656374, 0x75726520, 0x61626364, 0x3b656e64, 0xffffffff);
        house.back(4);
        check.due("read", house.read(), 0);
        check.due("count(4)", house.count(4), 1);
        // the ninth byte is above 127: it is no TOKEN
        house.feed(0x6c656374, 0x75726520, 0xe1626364, 0x3b656e64, 0x20202020);
        check.due("read of a high byte", house.read(), 1);
        check.due("its place", house.place(), 8);
    }
}
