/** Promises 8 to 10 and 23, steps 3 and 4 of 11: yards, sales in order, gutting, lots. */
public final class YardTest {
    private static final Check CHECK = new Check("YardTest");

    public static void main(String[] args) {
        yards();
        bids();
        softness();
        orderOfComing();
        choiceOfYard();
        roomOfADay();
        crews();
        lotsFollowOneAnother();
        softEdge();
        allSpoilt();
        fourHundredLots();
        lotBounds();
        CHECK.end();
    }

    private static void yards() {
        HerringSea x = new HerringSea();
        CHECK.due("yard(0, 1)", x.yard(0, 1), -1);
        CHECK.due("yard(7, 1)", x.yard(7, 1), -1);
        CHECK.due("yard(1, 0)", x.yard(1, 0), -1);
        CHECK.due("yard(1, 501)", x.yard(1, 501), -1);
        CHECK.due("yard(-1, -1)", x.yard(-1, -1), -1);
        CHECK.due("count(2)", x.count(2), 0);
        CHECK.due("yard(1, 1)", x.yard(1, 1), 0);
        CHECK.due("yard(6, 500)", x.yard(6, 500), 1);
        CHECK.due("yard(3, 9)", x.yard(3, 9), 2);
        CHECK.due("yard(1, 1)", x.yard(1, 1), 3);
        CHECK.due("a fifth yard", x.yard(1, 1), -1);
        CHECK.due("count(2)", x.count(2), 4);
    }

    private static void bids() {
        HerringSea x = new HerringSea();
        CHECK.due("bid without yards", x.bid(0, 1), false);
        x.yard(1, 1);
        CHECK.due("bid(0, 100)", x.bid(0, 100), true);
        CHECK.due("bid(0, 101)", x.bid(0, 101), false);
        CHECK.due("bid(0, -1)", x.bid(0, -1), false);
        CHECK.due("bid(1, 1)", x.bid(1, 1), false);
        CHECK.due("bid(-1, 1)", x.bid(-1, 1), false);
        fish(x, 1, 0, 9);
        x.night(false);
        CHECK.due("price as bid", x.lot(0, 8), 100);
        CHECK.due("bid(0, 0)", x.bid(0, 0), true);
        x.night(false);
        CHECK.due("price 0 sells too", x.lot(1, 8), 0);
        CHECK.due("owed", x.told(0, 3), 100);
    }

    private static void softness() {
        HerringSea x = new HerringSea();
        CHECK.due("soft(-1)", x.soft(-1), false);
        CHECK.due("soft(2001)", x.soft(2001), false);
        x.yard(1, 500);
        fish(x, 60, 0, 500);
        x.night(false);
        CHECK.due("cured by 300 minutes", x.lot(0, 5), 26);
        CHECK.due("spoilt by 300 minutes", x.lot(0, 6), 94);
        CHECK.due("soft(0)", x.soft(0), true);
        x.night(false);
        CHECK.due("cured by 0 minutes", x.lot(1, 5), 1);
        CHECK.due("soft(2000)", x.soft(2000), true);
        x.night(false);
        CHECK.due("cured by 2000 minutes", x.lot(2, 5), 120);
        CHECK.due("count(6)", x.count(6), 147);
        CHECK.due("count(7)", x.count(7), 94 + 119);
    }

    private static void orderOfComing() {
        HerringSea x = new HerringSea();
        x.yard(6, 500);
        fish(x, 1, 35, 100);
        fish(x, 2, 6, 100);
        fish(x, 3, 1, 100);
        fish(x, 4, 0, 100);
        fish(x, 5, 1, 100);
        x.night(false);
        int[] boats = {3, 1, 2, 4, 0};
        int[] minutes = {30, 60, 60, 60, 330};
        int[] cells = {0, 6, 1, 1, 35};
        CHECK.due("count(3)", x.count(3), 5);
        for (int n = 0; n < 5; n++) {
            CHECK.due("boat of lot " + n, x.lot(n, 1), boats[n]);
            CHECK.due("minute of lot " + n, x.lot(n, 7), minutes[n]);
            CHECK.due("cell of lot " + n, x.lot(n, 2), cells[n]);
            CHECK.due("crans of lot " + n, x.lot(n, 4), 2 * (boats[n] + 1));
        }
    }

    private static void choiceOfYard() {
        HerringSea x = new HerringSea();
        x.yard(1, 5);
        x.yard(1, 7);
        x.yard(1, 4);
        x.yard(1, 100);
        x.bid(1, 9);
        x.bid(2, 9);
        x.bid(3, 1);
        fish(x, 10, 0, 20);
        fish(x, 60, 0, 0);
        x.shoal(0, 20);
        x.go(1, -1);
        x.night(false);
        checkLot(x, 0, 0, 1, 7, 9);
        checkLot(x, 1, 0, 2, 4, 9);
        checkLot(x, 2, 0, 3, 9, 1);
        CHECK.due("count(3)", x.count(3), 3);
        CHECK.due("owed", x.told(0, 3), 63 + 36 + 9);
        x.go(1, 35);
        x.shoal(35, 120);
        x.shoal(0, 20);
        x.night(false);
        checkLot(x, 3, 0, 1, 7, 9);
        checkLot(x, 4, 0, 2, 4, 9);
        checkLot(x, 5, 0, 3, 9, 1);
        checkLot(x, 6, 1, 3, 91, 1);
        checkLot(x, 7, 1, 0, 5, 0);
        CHECK.due("thrown away", x.count(9), 24);
        CHECK.due("owed to the second", x.told(1, 3), 91);
        CHECK.due("owed in all", x.count(10), 216 + 91);
    }

    private static void roomOfADay() {
        HerringSea x = new HerringSea();
        x.yard(6, 3);
        x.bid(0, 2);
        fish(x, 1, 0, 1000);
        fish(x, 1, 0, 1000);
        fish(x, 1, 0, 1000);
        x.night(false);
        checkLot(x, 0, 0, 0, 2, 2);
        checkLot(x, 1, 1, 0, 1, 2);
        CHECK.due("count(3)", x.count(3), 2);
        CHECK.due("count(9)", x.count(9), 3);
        x.night(false);
        checkLot(x, 2, 0, 0, 2, 2);
        CHECK.due("night of a lot", x.lot(2, 0), 1);
        CHECK.due("count(9)", x.count(9), 6);
    }

    private static void crews() {
        for (int crews = 1; crews <= 6; crews++) {
            HerringSea x = new HerringSea();
            x.yard(crews, 500);
            fish(x, 10, 7, 100);
            x.night(false);
            int rounds = (20 + crews - 1) / crews;
            CHECK.due(crews + " crews, cured", x.lot(0, 5), 20);
            CHECK.due(crews + " crews, wait", x.lot(0, 9), 12 * (rounds - 1));
            CHECK.due(crews + " crews, done", x.lot(0, 10), 90 + 12 * rounds);
        }
    }

    private static void lotsFollowOneAnother() {
        HerringSea x = new HerringSea();
        x.yard(2, 500);
        x.soft(40);
        fish(x, 3, 0, 100);
        fish(x, 2, 1, 100);
        fish(x, 1, 3, 100);
        x.night(false);
        // At 30: 30 30 42 42 54 54; the crews are free at 66, the second comes at 60.
        CHECK.due("first, done", x.lot(0, 10), 66);
        CHECK.due("second, wait", x.lot(1, 9), 18);
        CHECK.due("second, done", x.lot(1, 10), 90);
        CHECK.due("third, wait", x.lot(2, 9), 0);
        CHECK.due("third, done", x.lot(2, 10), 132);
        x.soft(12);
        x.night(false);
        // At 30: 30 30 42 42, two spoilt; free at 54, so the second begins as it comes.
        CHECK.due("first, cured", x.lot(3, 5), 4);
        CHECK.due("first, spoilt", x.lot(3, 6), 2);
        CHECK.due("first, done", x.lot(3, 10), 54);
        CHECK.due("second, cured", x.lot(4, 5), 4);
        CHECK.due("second, wait", x.lot(4, 9), 12);
    }

    private static void softEdge() {
        HerringSea x = new HerringSea();
        x.yard(1, 500);
        fish(x, 5, 0, 1000);
        x.soft(36);
        x.night(false);
        CHECK.due("36 minutes are not more than 36", x.lot(0, 5), 4);
        x.soft(35);
        x.night(false);
        CHECK.due("36 minutes are more than 35", x.lot(1, 5), 3);
        CHECK.due("wait of cured ones alone", x.lot(1, 9), 24);
        CHECK.due("done", x.lot(1, 10), 66);
    }

    private static void allSpoilt() {
        HerringSea x = new HerringSea();
        x.yard(1, 500);
        x.soft(0);
        fish(x, 1, 0, 1000);
        fish(x, 1, 0, 1000);
        x.night(false);
        CHECK.due("cured", x.lot(1, 5), 0);
        CHECK.due("spoilt", x.lot(1, 6), 2);
        CHECK.due("wait without cured ones", x.lot(1, 9), 0);
        CHECK.due("done without cured ones", x.lot(1, 10), 0);
    }

    private static void fourHundredLots() {
        HerringSea x = new HerringSea();
        x.yard(1, 1);
        x.yard(1, 1);
        x.yard(1, 1);
        x.bid(0, 5);
        x.bid(1, 4);
        fish(x, 2, 0, 10000);
        for (int n = 0; n < 133; n++) {
            x.night(false);
        }
        CHECK.due("count(3)", x.count(3), 399);
        CHECK.due("count(9)", x.count(9), 133);
        CHECK.due("owed", x.told(0, 3), 133 * 9);
        CHECK.due("lot(399, 0)", x.lot(399, 0), -1);
        CHECK.due("takes", x.night(false), 4);
        CHECK.due("count(3)", x.count(3), 400);
        CHECK.due("lot(399, 3)", x.lot(399, 3), 0);
        CHECK.due("lot(399, 5)", x.lot(399, 5), 1);
        CHECK.due("count(9)", x.count(9), 136);
        CHECK.due("takes", x.night(false), 4);
        CHECK.due("count(3)", x.count(3), 400);
        CHECK.due("count(9)", x.count(9), 140);
        CHECK.due("owed", x.told(0, 3), 133 * 9 + 5);
        CHECK.due("count(6)", x.count(6), 400);
        CHECK.due("lot(400, 0)", x.lot(400, 0), -1);
    }

    private static void lotBounds() {
        HerringSea x = new HerringSea();
        x.yard(1, 500);
        fish(x, 1, 0, 10);
        x.night(false);
        CHECK.due("lot(0, 10)", x.lot(0, 10), 54);
        CHECK.due("lot(0, 11)", x.lot(0, 11), -1);
        CHECK.due("lot(0, -1)", x.lot(0, -1), -1);
        CHECK.due("lot(1, 0)", x.lot(1, 0), -1);
        CHECK.due("lot(-1, 0)", x.lot(-1, 0), -1);
    }

    private static void fish(HerringSea x, int nets, int cell, int crans) {
        int boat = x.boat(nets);
        x.go(boat, cell);
        x.shoal(cell, crans);
    }

    private static void checkLot(HerringSea x, int lot, int boat, int yard, int crans, int price) {
        CHECK.due("boat of lot " + lot, x.lot(lot, 1), boat);
        CHECK.due("yard of lot " + lot, x.lot(lot, 3), yard);
        CHECK.due("crans of lot " + lot, x.lot(lot, 4), crans);
        CHECK.due("price of lot " + lot, x.lot(lot, 8), price);
    }
}
