/** Edges that the document names of yards and lots: promises 8 to 10 and 23, sales and gutting of 11; a method a sentence. */
public final class YardEdgesTest {
    private static final Check CHECK = new Check("YardEdgesTest");
    private static final int LEAST = Integer.MIN_VALUE;
    private static final int MOST = Integer.MAX_VALUE;

    public static void main(String[] args) {
        yardsAreFourAtMost();
        crewsAre1To6();
        roomIs1To500();
        bidsAre0To100();
        bidsAre0AtFirst();
        noSuchYard();
        softIs0To2000();
        softIs300AtFirst();
        minuteOfEachCell();
        orderByMinuteThenNumber();
        boatsThatTookNothingDoNotComeIn();
        greatestBidLowestNumber();
        asManyAsItHasRoomFor();
        aBoatSellsToEachYard();
        roomIsOfADay();
        whatNobodyTakesIsThrownAway();
        lotsAre400InAll();
        behind400LotsNothingIsSold();
        crewThatIsFreeFirst();
        noEarlierThanItsComing();
        twelveMinutesACran();
        allCrewsAreFreeAt0();
        moreThanSoftIsSpoilt();
        noCrewBeginsASpoiltCran();
        yardsHaveTheirOwnCrews();
        lotWithoutCuredOnes();
        lotIsNoneForOthers();
        CHECK.end();
    }

    /** A boat that takes so many crans of a cell of its own, every night that the shoal is told anew. */
    private static void fish(HerringSea x, int cell, int crans) {
        x.go(x.boat((crans + 1) / 2), cell);
        x.shoal(cell, crans);
    }

    private static void aDay(HerringSea x) {
        x.yard(1, 30);
        x.yard(2, 20);
        x.bid(0, 5);
        x.bid(1, 7);
        x.soft(100);
        fish(x, 0, 40);
        fish(x, 7, 40);
        x.share(0, 0, 1);
    }

    private static void checkLot(String why, HerringSea x, int lot, int... want) {
        int[] whats = {1, 3, 4, 8};
        for (int i = 0; i < want.length; i++) {
            CHECK.due(why + ": lot " + lot + ", " + whats[i], x.lot(lot, whats[i]), want[i]);
        }
    }

    private static void checkGut(String why, HerringSea x, int lot, int... want) {
        int[] whats = {5, 6, 9, 10};
        for (int i = 0; i < want.length; i++) {
            CHECK.due(why + ": lot " + lot + ", " + whats[i], x.lot(lot, whats[i]), want[i]);
        }
    }

    private static void yardsAreFourAtMost() {
        HerringSea x = new HerringSea();
        CHECK.due("yards at first", x.count(2), 0);
        for (int yard = 0; yard < 4; yard++) {
            CHECK.due("yards are numbered 0, 1, ..", x.yard(1, 1), yard);
            CHECK.due("yards", x.count(2), yard + 1);
        }
        CHECK.due("a fifth", x.yard(1, 1), -1);
        CHECK.due("a fifth", x.yard(6, 500), -1);
        CHECK.due("yards", x.count(2), 4);
        fish(x, 0, 9);
        x.night(false);
        CHECK.due("four lots of one cran", x.count(3), 4);
        CHECK.due("the others are thrown away", x.count(9), 5);
    }

    private static void crewsAre1To6() {
        for (int crews : new int[] {1, 2, 5, 6}) {
            HerringSea x = new HerringSea();
            CHECK.due(crews + " crews", x.yard(crews, 500), 0);
            x.soft(0);
            fish(x, 0, 20);
            x.night(false);
            checkGut(crews + " crews begin at once", x, 0, crews, 20 - crews, 0, 42);
        }
        for (int crews : new int[] {0, -1, 7, 8, LEAST, MOST}) {
            refusedYard(crews, 10);
        }
    }

    private static void roomIs1To500() {
        for (int room : new int[] {1, 2, 499, 500}) {
            HerringSea x = new HerringSea();
            CHECK.due("room " + room, x.yard(6, room), 0);
            for (int boat = 0; boat < 5; boat++) {
                fish(x, boat, 120);
            }
            x.night(false);
            CHECK.due("room " + room + ", cured and spoilt", x.count(6) + x.count(7), room);
            CHECK.due("room " + room + ", thrown away", x.count(9), 600 - room);
        }
        for (int room : new int[] {0, -1, 501, 502, LEAST, MOST}) {
            refusedYard(1, room);
        }
    }

    private static void refusedYard(int crews, int room) {
        new Twins(CHECK, "a yard out of bounds").both(YardEdgesTest::aDay)
            .isNone("yard(" + crews + ", " + room + ")", y -> y.yard(crews, room))
            .both(y -> CHECK.due("the next yard's number", y.yard(1, 1), 2)).both(y -> y.night(false)).alike();
    }

    private static void bidsAre0To100() {
        for (int coins : new int[] {0, 1, 99, 100}) {
            HerringSea x = new HerringSea();
            x.yard(1, 10);
            x.bid(0, 50);
            CHECK.due("bid(0, " + coins + ")", x.bid(0, coins), true);
            CHECK.due("bid(0, " + coins + ") again", x.bid(0, coins), true);
            fish(x, 0, 10);
            x.night(false);
            checkLot("a bid of " + coins, x, 0, 0, 0, 10, coins);
            CHECK.due("owed by a bid of " + coins, x.told(0, 3), 10 * coins);
        }
        for (int coins : new int[] {-1, 101, 102, LEAST, MOST}) {
            new Twins(CHECK, "a bid out of bounds").both(YardEdgesTest::aDay)
                .isFalse("bid(0, " + coins + ")", y -> y.bid(0, coins)).both(y -> y.night(false)).alike();
        }
    }

    private static void bidsAre0AtFirst() {
        HerringSea x = new HerringSea();
        x.yard(1, 10);
        x.yard(1, 10);
        x.bid(1, 1);
        fish(x, 0, 20);
        x.night(false);
        checkLot("1 is more than the first bid", x, 0, 0, 1, 10, 1);
        checkLot("the first bid takes too", x, 1, 0, 0, 10, 0);
        CHECK.due("thrown away", x.count(9), 0);
    }

    private static void noSuchYard() {
        for (int yard : new int[] {-1, 2, 3, 4, 5, LEAST, MOST}) {
            new Twins(CHECK, "no such yard").both(YardEdgesTest::aDay)
                .isFalse("bid(" + yard + ", 9)", y -> y.bid(yard, 9)).both(y -> y.yard(1, 9))
                .both(y -> y.night(false)).alike();
        }
        CHECK.due("without yards", new HerringSea().bid(0, 0), false);
    }

    /** Four boats bring 480 crans at minute 30 to one crew. */
    private static HerringSea aLongDay(int soft) {
        HerringSea x = new HerringSea();
        x.yard(1, 500);
        for (int boat = 0; boat < 4; boat++) {
            x.go(x.boat(60), 0);
        }
        x.shoal(0, 480);
        CHECK.due("soft(" + soft + ")", x.soft(soft), true);
        x.night(false);
        return x;
    }

    private static void softIs0To2000() {
        checkGut("soft 0", aLongDay(0), 0, 1, 119, 0, 42);
        checkGut("soft 1", aLongDay(1), 0, 1, 119, 0, 42);
        checkGut("soft 2000", aLongDay(2000), 1, 47, 73, 1992, 2034);
        checkGut("soft 1999", aLongDay(1999), 1, 47, 73, 1992, 2034);
        for (int soft : new int[] {-1, 2001, 2002, LEAST, MOST}) {
            new Twins(CHECK, "soft out of bounds").both(YardEdgesTest::aDay)
                .isFalse("soft(" + soft + ")", y -> y.soft(soft)).both(y -> y.night(false)).alike();
        }
    }

    private static void softIs300AtFirst() {
        HerringSea x = new HerringSea();
        x.yard(1, 500);
        fish(x, 0, 100);
        x.night(false);
        checkGut("a wait of 300 is not more than 300", x, 0, 26, 74, 300, 342);
    }

    private static void minuteOfEachCell() {
        for (int from = 0; from < 36; from += 12) {
            HerringSea x = new HerringSea();
            x.yard(6, 500);
            for (int cell = from; cell < from + 12; cell++) {
                fish(x, cell, 2);
            }
            x.night(false);
            for (int lot = 0; lot < 12; lot++) {
                int cell = x.lot(lot, 2);
                CHECK.due("a lot of each boat", cell, from + x.lot(lot, 1));
                CHECK.due("minute of cell " + cell, x.lot(lot, 7), 30 * (cell % 6 + cell / 6 + 1));
            }
            CHECK.due("lots", x.count(3), 12);
        }
    }

    private static void orderByMinuteThenNumber() {
        HerringSea x = new HerringSea();
        x.yard(6, 500);
        int[] cells = {35, 6, 1, 30, 5, 0, 29, 34, 1};
        for (int cell : cells) {
            x.go(x.boat(1), cell);
            x.shoal(cell, 10);
        }
        x.night(false);
        int[] boats = {5, 1, 2, 8, 3, 4, 6, 7, 0};
        int[] minutes = {30, 60, 60, 60, 180, 180, 300, 300, 330};
        for (int lot = 0; lot < boats.length; lot++) {
            CHECK.due("boat of lot " + lot, x.lot(lot, 1), boats[lot]);
            CHECK.due("minute of lot " + lot, x.lot(lot, 7), minutes[lot]);
        }
    }

    private static void boatsThatTookNothingDoNotComeIn() {
        HerringSea x = new HerringSea();
        x.yard(1, 1);
        x.go(x.boat(5), 0);
        x.go(x.boat(5), 1);
        x.shoal(1, 1);
        x.night(false);
        CHECK.due("one lot", x.count(3), 1);
        checkLot("of one cran", x, 0, 1, 0, 1, 0);
        x.night(false);
        CHECK.due("nothing is taken, nothing is sold", x.count(3), 1);
    }

    private static void greatestBidLowestNumber() {
        HerringSea x = new HerringSea();
        for (int yard = 0; yard < 4; yard++) {
            x.yard(1, 2);
        }
        x.bid(0, 4);
        x.bid(1, 6);
        x.bid(2, 6);
        x.bid(3, 5);
        fish(x, 0, 8);
        x.night(false);
        checkLot("the greatest", x, 0, 0, 1, 2, 6);
        checkLot("alike, the higher number", x, 1, 0, 2, 2, 6);
        checkLot("the next", x, 2, 0, 3, 2, 5);
        checkLot("the least", x, 3, 0, 0, 2, 4);
        x.bid(0, 6);
        x.shoal(0, 1);
        x.night(false);
        checkLot("alike, the lowest number", x, 4, 0, 0, 1, 6);
        CHECK.due("an earlier lot keeps its price", x.lot(3, 8), 4);
    }

    private static void asManyAsItHasRoomFor() {
        for (int room = 9; room <= 11; room++) {
            HerringSea x = new HerringSea();
            x.yard(1, room);
            x.yard(1, 100);
            x.bid(0, 2);
            x.bid(1, 1);
            fish(x, 0, 10);
            fish(x, 1, 10);
            x.night(false);
            int first = Math.min(room, 10);
            checkLot("room " + room, x, 0, 0, 0, first, 2);
            if (room < 10) {
                checkLot("one too many", x, 1, 0, 1, 1, 1);
                checkLot("no room left", x, 2, 1, 1, 10, 1);
            } else if (room == 10) {
                checkLot("room is used up", x, 1, 1, 1, 10, 1);
            } else {
                checkLot("room for one more", x, 1, 1, 0, 1, 2);
                checkLot("and the others", x, 2, 1, 1, 9, 1);
            }
            CHECK.due("lots, room " + room, x.count(3), room == 10 ? 2 : 3);
            CHECK.due("owed in all, room " + room, x.count(10), 20 + room);
        }
    }

    private static void aBoatSellsToEachYard() {
        HerringSea x = new HerringSea();
        for (int yard = 0; yard < 4; yard++) {
            x.yard(1, 10);
            x.bid(yard, 10 + yard);
        }
        fish(x, 0, 31);
        x.night(false);
        CHECK.due("a lot of each yard", x.count(3), 4);
        checkLot("the last cran", x, 3, 0, 0, 1, 10);
        CHECK.due("nothing is thrown away", x.count(9), 0);
        x.shoal(0, 32);
        x.night(false);
        checkLot("the last two", x, 7, 0, 0, 2, 10);
        CHECK.due("owed", x.told(0, 3), 2 * 10 * (11 + 12 + 13) + 30);
    }

    private static void roomIsOfADay() {
        HerringSea x = new HerringSea();
        x.yard(1, 5);
        fish(x, 0, 5);
        for (int night = 0; night < 3; night++) {
            x.shoal(0, 5);
            x.night(false);
            checkLot("each day anew", x, night, 0, 0, 5, 0);
            CHECK.due("its night", x.lot(night, 0), night);
        }
        CHECK.due("nothing is thrown away", x.count(9), 0);
    }

    private static void whatNobodyTakesIsThrownAway() {
        HerringSea x = new HerringSea();
        fish(x, 0, 10);
        x.night(false);
        CHECK.due("no yards", x.count(9), 10);
        CHECK.due("no lots", x.count(3), 0);
        x.yard(1, 3);
        x.bid(0, 9);
        x.shoal(0, 10);
        x.night(false);
        CHECK.due("no room", x.count(9), 17);
        CHECK.due("money for what was sold", x.told(0, 3), 27);
        CHECK.due("taken all the same", x.told(0, 2), 20);
    }

    /** Four lots a night of one boat, and a second boat that comes too late to sell. */
    private static HerringSea manyLots(int nights) {
        HerringSea x = new HerringSea();
        for (int yard = 0; yard < 4; yard++) {
            x.yard(1, 1);
            x.bid(yard, 1 + yard);
        }
        x.go(x.boat(2), 0);
        x.go(x.boat(1), 35);
        x.shoal(0, 10000);
        x.shoal(35, 10000);
        for (int night = 0; night < nights; night++) {
            x.night(false);
        }
        return x;
    }

    private static void lotsAre400InAll() {
        HerringSea x = manyLots(99);
        CHECK.due("lots", x.count(3), 396);
        CHECK.due("the 397th", x.lot(396, 0), -1);
        x.night(false);
        CHECK.due("lots", x.count(3), 400);
        checkLot("the 400th", x, 399, 0, 0, 1, 1);
        CHECK.due("the night of the 400th", x.lot(399, 0), 99);
        CHECK.due("cured of the 400th", x.lot(399, 5), 1);
        CHECK.due("the 401st", x.lot(400, 0), -1);
        x.night(false);
        CHECK.due("lots", x.count(3), 400);
        CHECK.due("the 401st", x.lot(400, 0), -1);
        checkLot("the first is kept", x, 0, 0, 3, 1, 4);
        CHECK.due("the night of the first", x.lot(0, 0), 0);
        CHECK.due("the night of the 400th", x.lot(399, 0), 99);
    }

    private static void behind400LotsNothingIsSold() {
        HerringSea x = manyLots(100);
        CHECK.due("owed", x.told(0, 3), 1000);
        CHECK.due("thrown away", x.count(9), 200);
        CHECK.due("crans are taken still", x.night(false), 6);
        CHECK.due("no money", x.count(10), 1000);
        CHECK.due("all is thrown away", x.count(9), 206);
        CHECK.due("nothing is cured", x.count(6), 400);
        CHECK.due("nothing is spoilt", x.count(7), 0);
        CHECK.due("taken in all", x.count(5), 606);
        HerringSea y = manyLots(99);
        y.bid(3, 0);
        y.shoal(0, 3);
        y.night(false);
        checkLot("one lot is left for the second boat", y, 399, 1, 3, 1, 0);
        CHECK.due("its other cran", y.count(9), 99 * 2 + 1);
        HerringSea z = manyLots(99);
        z.go(1, -1);
        z.shoal(0, 1);
        z.night(false);
        CHECK.due("three lots are left", z.count(3), 397);
        z.go(1, 35);
        z.shoal(0, 4);
        z.night(false);
        CHECK.due("within a boat's sales: lots", z.count(3), 400);
        CHECK.due("within a boat's sales: owed", z.told(0, 3), 99 * 10 + 4 + 4 + 3 + 2);
        CHECK.due("within a boat's sales: thrown away, though a yard has room", z.count(9), 99 * 2 + 1 + 2);
    }

    private static void crewThatIsFreeFirst() {
        HerringSea x = new HerringSea();
        x.yard(2, 500);
        x.go(x.boat(3), 0);
        x.go(x.boat(2), 0);
        x.shoal(0, 5);
        x.night(false);
        // 3 crans at 30, 30, 42: the second crew is free at 42, the first one at 54.
        checkGut("the first lot", x, 0, 3, 0, 12, 54);
        checkGut("the crew that is free at 42", x, 1, 2, 0, 24, 66);
    }

    private static void noEarlierThanItsComing() {
        HerringSea x = new HerringSea();
        x.yard(1, 500);
        fish(x, 0, 2);
        fish(x, 1, 1);
        fish(x, 2, 5);
        fish(x, 3, 1);
        x.night(false);
        checkGut("at its coming", x, 0, 2, 0, 12, 54);
        checkGut("a crew that waits for it", x, 1, 1, 0, 0, 72);
        checkGut("in a row", x, 2, 5, 0, 48, 150);
        checkGut("a lot that waits for a crew", x, 3, 1, 0, 30, 162);
    }

    private static void twelveMinutesACran() {
        HerringSea x = new HerringSea();
        x.yard(6, 500);
        fish(x, 35, 13);
        x.night(false);
        checkGut("six crews, thirteen crans", x, 0, 13, 0, 24, 366);
    }

    private static void allCrewsAreFreeAt0() {
        HerringSea x = new HerringSea();
        x.yard(1, 500);
        x.soft(2000);
        fish(x, 0, 120);
        x.night(false);
        checkGut("a long day", x, 0, 120, 0, 119 * 12, 30 + 120 * 12);
        x.shoal(0, 120);
        x.night(false);
        checkGut("the next day is not later", x, 1, 120, 0, 119 * 12, 30 + 120 * 12);
    }

    private static void moreThanSoftIsSpoilt() {
        for (int soft = 23; soft <= 25; soft++) {
            HerringSea x = new HerringSea();
            x.yard(1, 500);
            x.soft(soft);
            fish(x, 0, 3);
            x.night(false);
            boolean all = soft >= 24;
            checkGut("soft " + soft, x, 0, all ? 3 : 2, all ? 0 : 1, all ? 24 : 12, all ? 66 : 54);
            CHECK.due("cured in all", x.count(6), all ? 3 : 2);
            CHECK.due("spoilt in all", x.count(7), all ? 0 : 1);
        }
        checkGut("soft 1992", aLongDay(1992), 1, 47, 73, 1992, 2034);
        checkGut("soft 1991", aLongDay(1991), 1, 46, 74, 1980, 2022);
    }

    private static void noCrewBeginsASpoiltCran() {
        HerringSea x = new HerringSea();
        x.yard(1, 500);
        x.soft(0);
        fish(x, 0, 50);
        fish(x, 1, 50);
        x.night(false);
        checkGut("one cran", x, 0, 1, 49, 0, 42);
        checkGut("the crew is free again", x, 1, 1, 49, 0, 72);
    }

    private static void yardsHaveTheirOwnCrews() {
        HerringSea x = new HerringSea();
        x.yard(1, 2);
        x.yard(1, 2);
        fish(x, 0, 4);
        x.night(false);
        checkGut("the first yard", x, 0, 2, 0, 12, 54);
        checkGut("the second yard", x, 1, 2, 0, 12, 54);
    }

    private static void lotWithoutCuredOnes() {
        HerringSea x = new HerringSea();
        x.yard(1, 500);
        x.soft(11);
        x.go(x.boat(1), 0);
        x.go(x.boat(1), 0);
        x.shoal(0, 2);
        x.night(false);
        checkGut("a crew at its coming", x, 0, 1, 0, 0, 42);
        checkGut("without cured ones", x, 1, 0, 1, 0, 0);
    }

    private static void lotIsNoneForOthers() {
        HerringSea x = new HerringSea();
        CHECK.due("no lots at first", x.lot(0, 0), -1);
        aDay(x);
        x.night(false);
        int lots = x.count(3);
        CHECK.due("lots", lots, 3);
        for (int lot : new int[] {-1, lots, 399, 400, 401, LEAST, MOST}) {
            for (int what = 0; what <= 10; what++) {
                CHECK.due("lot(" + lot + ", " + what + ")", x.lot(lot, what), -1);
            }
        }
        for (int what : new int[] {-1, 11, 12, LEAST, MOST}) {
            CHECK.due("lot(0, " + what + ")", x.lot(0, what), -1);
        }
    }
}
