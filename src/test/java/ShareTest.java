/** Promises 18 to 20 and 24: shares, settling, coins, counts. */
public final class ShareTest {
    private static final Check CHECK = new Check("ShareTest");

    public static void main(String[] args) {
        bounds();
        settling();
        partsAsTheyAreThen();
        counts();
        CHECK.end();
    }

    /** A boat that has sold so many crans at a bid. */
    private static HerringSea owed(int crans, int bid) {
        HerringSea x = new HerringSea();
        x.yard(6, 500);
        x.bid(0, bid);
        x.boat(60);
        x.go(0, 0);
        x.shoal(0, crans);
        x.night(false);
        return x;
    }

    private static void bounds() {
        HerringSea x = new HerringSea();
        CHECK.due("share without boats", x.share(0, 0, 1), false);
        x.boat(1);
        CHECK.due("share(0, 0, 0)", x.share(0, 0, 0), true);
        CHECK.due("share(0, 7, 100)", x.share(0, 7, 100), true);
        CHECK.due("share(0, 8, 1)", x.share(0, 8, 1), false);
        CHECK.due("share(0, -1, 1)", x.share(0, -1, 1), false);
        CHECK.due("share(0, 0, 101)", x.share(0, 0, 101), false);
        CHECK.due("share(0, 0, -1)", x.share(0, 0, -1), false);
        CHECK.due("share(1, 0, 1)", x.share(1, 0, 1), false);
        CHECK.due("share(-1, 0, 1)", x.share(-1, 0, 1), false);
        CHECK.due("settle, nothing owed", x.settle(0), -1);
        CHECK.due("settle(1)", x.settle(1), -1);
        CHECK.due("settle(-1)", x.settle(-1), -1);
        CHECK.due("coins(0, 8)", x.coins(0, 8), 0);
        CHECK.due("coins(0, -1)", x.coins(0, -1), 0);
        CHECK.due("coins(1, 0)", x.coins(1, 0), 0);
        CHECK.due("coins(-1, 0)", x.coins(-1, 0), 0);
    }

    private static void settling() {
        HerringSea x = owed(100, 1);
        CHECK.due("all parts are 0", x.settle(0), -1);
        CHECK.due("still owed", x.told(0, 3), 100);
        x.share(0, 1, 3);
        x.share(0, 4, 3);
        x.share(0, 7, 3);
        CHECK.due("settle(0)", x.settle(0), 100);
        int[] want = {0, 34, 0, 0, 33, 0, 0, 33};
        for (int hand = 0; hand < 8; hand++) {
            CHECK.due("coins(0, " + hand + ")", x.coins(0, hand), want[hand]);
        }
        CHECK.due("told(0, 3)", x.told(0, 3), 0);
        CHECK.due("count(10)", x.count(10), 0);
        CHECK.due("settle again", x.settle(0), -1);
        x.shoal(0, 50);
        x.night(false);
        CHECK.due("settle more", x.settle(0), 50);
        CHECK.due("coins add up", x.coins(0, 1), 34 + 17);
        CHECK.due("coins add up", x.coins(0, 4), 33 + 17);
        CHECK.due("coins add up", x.coins(0, 7), 33 + 16);
        HerringSea y = owed(3, 0);
        y.share(0, 0, 1);
        CHECK.due("sold for nothing", y.settle(0), -1);
    }

    private static void partsAsTheyAreThen() {
        HerringSea x = owed(11, 1);
        x.share(0, 0, 100);
        x.share(0, 1, 1);
        x.share(0, 2, 50);
        x.share(0, 0, 1);
        x.share(0, 2, 5);
        // 11 among 1, 1, 5: 1 rest 4, 1 rest 4, 7 rest 6; two left, to hand 2 and then hand 0.
        int[] want = {2, 1, 8, 0, 0, 0, 0, 0};
        CHECK.due("settle", x.settle(0), 11);
        for (int hand = 0; hand < 8; hand++) {
            CHECK.due("coins(0, " + hand + ")", x.coins(0, hand), want[hand]);
        }
    }

    private static void counts() {
        HerringSea x = owed(100, 100);
        CHECK.due("count(-1)", x.count(-1), -1);
        CHECK.due("count(12)", x.count(12), -1);
        x.boat(10);
        x.go(1, 1);
        x.shoal(1, 1000);
        x.shoal(2, 3);
        x.feed(0x20200020, 0, 0, 0, 1);
        x.night(true);
        int[] want = {2, 2, 1, 2, 983, 120, 120, 0, 0, 0, 12000, 4};
        for (int what = 0; what < 12; what++) {
            CHECK.due("count(" + what + ")", x.count(what), want[what]);
        }
        x.share(0, 3, 1);
        x.settle(0);
        CHECK.due("owed still", x.count(10), 2000);
        CHECK.due("coins(0, 3)", x.coins(0, 3), 10000);
    }
}
