/** Edges that the document names of boats: promises 5 to 7 and 22, parting, hauls and gales of 11; a method a sentence. */
public final class BoatEdgesTest {
    private static final Check CHECK = new Check("BoatEdgesTest");
    private static final int LEAST = Integer.MIN_VALUE;
    private static final int MOST = Integer.MAX_VALUE;
    private static final int[] NO_BOATS = {-1, 2, 3, 11, 12, 13, LEAST, MOST};

    public static void main(String[] args) {
        boatsAreTwelveAtMost();
        netsAre0To60();
        noSuchBoat();
        boatsGoNowhereAtFirst();
        goToNoneIsToStay();
        goToNoSuchCell();
        mendBelow1();
        mendMoreThan60Then();
        boatsWithoutCellOrNets();
        twoCransANetOrWhatThereIs();
        galesMatterInOpenCellsAlone();
        fifthIsCut();
        galeTakesFromBoatsThatWouldTakeNothing();
        partIsCut();
        restsGoByOnesToTheGreatest();
        alikeRestsLowestNumberFirst();
        partsAmongTheBoatsOfACell();
        boatsStayToldForTheirCells();
        takenInTheLatestNight();
        toldIsNoneForOthers();
        CHECK.end();
    }

    private static void twoBoats(HerringSea x) {
        x.boat(10);
        x.boat(58);
        x.go(0, 3);
        x.go(1, 4);
        x.shoal(3, 500);
        x.shoal(4, 500);
        x.yard(2, 100);
        x.bid(0, 3);
        x.share(0, 0, 1);
        x.share(1, 7, 1);
    }

    private static void boatsAreTwelveAtMost() {
        HerringSea x = new HerringSea();
        CHECK.due("boats at first", x.count(1), 0);
        for (int boat = 0; boat < 12; boat++) {
            CHECK.due("boats are numbered 0, 1, ..", x.boat(60 - boat), boat);
        }
        CHECK.due("a thirteenth", x.boat(0), -1);
        CHECK.due("a thirteenth", x.boat(60), -1);
        CHECK.due("boats", x.count(1), 12);
        CHECK.due("the twelfth boat's nets", x.told(11, 0), 49);
        CHECK.due("told of a thirteenth", x.told(12, 0), -1);
    }

    private static void netsAre0To60() {
        HerringSea x = new HerringSea();
        CHECK.due("boat(0)", x.boat(0), 0);
        CHECK.due("boat(60)", x.boat(60), 1);
        CHECK.due("nets", x.told(0, 0), 0);
        CHECK.due("nets", x.told(1, 0), 60);
        for (int nets : new int[] {-1, 61, 62, LEAST, MOST}) {
            new Twins(CHECK, "nets out of bounds").both(BoatEdgesTest::twoBoats)
                .isNone("boat(" + nets + ")", y -> y.boat(nets))
                .both(y -> CHECK.due("the next boat's number", y.boat(1), 2)).alike();
        }
    }

    private static void noSuchBoat() {
        for (int boat : NO_BOATS) {
            Twins twins = new Twins(CHECK, "no such boat " + boat).both(BoatEdgesTest::twoBoats);
            twins.isFalse("go", y -> y.go(boat, 0)).isFalse("go nowhere", y -> y.go(boat, -1));
            twins.isNone("mend", y -> y.mend(boat, 1)).isFalse("share", y -> y.share(boat, 0, 1));
            twins.isNone("settle", y -> y.settle(boat)).is("coins", 0, y -> y.coins(boat, 0));
            for (int what = 0; what < 6; what++) {
                int asked = what;
                twins.isNone("told " + what, y -> y.told(boat, asked));
            }
            twins.both(y -> y.night(false)).alike();
        }
    }

    private static void boatsGoNowhereAtFirst() {
        HerringSea x = new HerringSea();
        for (int cell = 0; cell < 36; cell++) {
            x.shoal(cell, 100);
        }
        x.boat(60);
        CHECK.due("its cell at first", x.told(0, 1), -1);
        CHECK.due("it takes nothing", x.night(false), 0);
    }

    private static void goToNoneIsToStay() {
        HerringSea x = new HerringSea();
        twoBoats(x);
        CHECK.due("go(0, NONE)", x.go(0, HerringSea.NONE), true);
        CHECK.due("its cell", x.told(0, 1), -1);
        CHECK.due("go(0, NONE) again", x.go(0, HerringSea.NONE), true);
        CHECK.due("the other boat alone", x.night(false), 116);
        CHECK.due("go(0, 3)", x.go(0, 3), true);
        CHECK.due("go(0, 3) again", x.go(0, 3), true);
        CHECK.due("both boats", x.night(false), 136);
    }

    private static void goToNoSuchCell() {
        for (int cell : new int[] {-2, 36, 37, LEAST, MOST}) {
            new Twins(CHECK, "go to no such cell").both(BoatEdgesTest::twoBoats)
                .isFalse("go(0, " + cell + ")", y -> y.go(0, cell)).both(y -> y.night(false)).alike();
        }
    }

    private static void mendBelow1() {
        for (int nets : new int[] {0, -1, -10, LEAST}) {
            new Twins(CHECK, "nets below 1").both(BoatEdgesTest::twoBoats)
                .isNone("mend(0, " + nets + ")", y -> y.mend(0, nets)).both(y -> y.night(false)).alike();
        }
        HerringSea x = new HerringSea();
        x.boat(0);
        CHECK.due("mend by 1", x.mend(0, 1), 1);
        CHECK.due("mend by 59", x.mend(0, 59), 60);
        CHECK.due("nets", x.told(0, 0), 60);
    }

    private static void mendMoreThan60Then() {
        for (int nets : new int[] {3, 4, 60, 61, MOST - 58, MOST - 57, MOST - 1, MOST}) {
            new Twins(CHECK, "more than 60 then").both(BoatEdgesTest::twoBoats)
                .isNone("mend(1, " + nets + ")", y -> y.mend(1, nets)).both(y -> y.night(false)).alike();
        }
        HerringSea x = new HerringSea();
        twoBoats(x);
        CHECK.due("60 then", x.mend(1, 2), 60);
        CHECK.due("61 then", x.mend(1, 1), -1);
        x.open(4, true);
        x.night(true);
        CHECK.due("lost nets leave room", x.mend(1, 13), -1);
        CHECK.due("lost nets leave room", x.mend(1, 12), 60);
        CHECK.due("mended nets were lost all the same", x.told(1, 4), 12);
    }

    private static void boatsWithoutCellOrNets() {
        HerringSea x = new HerringSea();
        x.boat(0);
        x.boat(60);
        x.boat(1);
        x.go(0, 9);
        x.go(2, 9);
        x.shoal(9, 100);
        x.yard(1, 500);
        CHECK.due("the boat with a cell and nets", x.night(false), 2);
        CHECK.due("without nets", x.told(0, 5), 0);
        CHECK.due("without a cell", x.told(1, 5), 0);
        CHECK.due("with both", x.told(2, 5), 2);
        CHECK.due("one lot", x.count(3), 1);
        CHECK.due("its boat", x.lot(0, 1), 2);
    }

    private static void twoCransANetOrWhatThereIs() {
        for (int crans : new int[] {0, 1, 9, 10, 11, 10000}) {
            HerringSea x = new HerringSea();
            x.boat(5);
            x.go(0, 35);
            x.shoal(35, crans);
            int want = Math.min(crans, 10);
            CHECK.due("of " + crans, x.night(false), want);
            CHECK.due("of " + crans + " left", x.cell(35, 0), crans - want);
            CHECK.due("of " + crans + " told", x.told(0, 2), want);
            CHECK.due("of " + crans + " taken in all", x.count(5), want);
        }
    }

    private static void galesMatterInOpenCellsAlone() {
        for (int i = 0; i < 4; i++) {
            boolean gale = i % 2 == 1;
            boolean open = i / 2 == 1;
            HerringSea x = new HerringSea();
            x.boat(5);
            x.go(0, 8);
            x.shoal(8, 100);
            if (open) {
                x.open(8, true);
            }
            int want = gale && open ? 0 : 10;
            CHECK.due("gale " + gale + ", open " + open, x.night(gale), want);
            CHECK.due("crans left", x.cell(8, 0), 100 - want);
            CHECK.due("nets lost", x.told(0, 4), gale && open ? 1 : 0);
        }
    }

    private static void fifthIsCut() {
        int[] nets = {0, 1, 4, 5, 9, 10, 14, 15, 59, 60};
        int[] lost = {0, 0, 0, 1, 1, 2, 2, 3, 11, 12};
        HerringSea x = new HerringSea();
        x.open(0, true);
        for (int boat = 0; boat < nets.length; boat++) {
            x.boat(nets[boat]);
            x.go(boat, 0);
        }
        x.night(true);
        for (int boat = 0; boat < nets.length; boat++) {
            CHECK.due("lost of " + nets[boat], x.told(boat, 4), lost[boat]);
            CHECK.due("left of " + nets[boat], x.told(boat, 0), nets[boat] - lost[boat]);
        }
        for (int night = 0; night < 30; night++) {
            x.night(true);
        }
        CHECK.due("fewer than five are never lost", x.told(9, 0), 4);
        CHECK.due("lost in all", x.told(9, 4), 56);
    }

    private static void galeTakesFromBoatsThatWouldTakeNothing() {
        HerringSea x = new HerringSea();
        x.boat(10);
        x.boat(10);
        x.open(20, true);
        x.go(0, 20);
        x.night(true);
        CHECK.due("in an empty cell", x.told(0, 4), 2);
        CHECK.due("a boat that stays", x.told(1, 4), 0);
        x.shoal(20, 100);
        x.night(true);
        CHECK.due("of what is left", x.told(0, 4), 3);
        CHECK.due("it takes nothing", x.told(0, 5), 0);
        CHECK.due("no lot, nothing thrown away", x.count(3) + x.count(9), 0);
    }

    private static void checkParts(String why, int crans, int[] nets, int[] want) {
        HerringSea x = new HerringSea();
        x.shoal(0, crans);
        for (int boat = 0; boat < nets.length; boat++) {
            x.boat(nets[boat]);
            x.go(boat, 0);
        }
        x.night(false);
        for (int boat = 0; boat < nets.length; boat++) {
            CHECK.due(why + ", boat " + boat, x.told(boat, 5), want[boat]);
        }
    }

    private static void partIsCut() {
        checkParts("nothing is left", 6, new int[] {1, 2, 3}, new int[] {1, 2, 3});
        checkParts("nothing to part", 0, new int[] {1, 2, 3}, new int[] {0, 0, 0});
        checkParts("one boat alone", 7, new int[] {60}, new int[] {7});
        checkParts("a measure of 0", 3, new int[] {0, 2, 0, 1, 0}, new int[] {0, 2, 0, 1, 0});
        checkParts("twelve of 60", 1440, fill(60), fill(120));
    }

    private static void restsGoByOnesToTheGreatest() {
        checkParts("the last has the greatest rest", 1, new int[] {1, 1, 2}, new int[] {0, 0, 1});
        checkParts("cut 0, 1, 2, rests 5, 3, 6", 5, new int[] {1, 2, 4}, new int[] {1, 1, 3});
        checkParts("a great part with a small rest", 4, new int[] {1, 6, 1}, new int[] {1, 3, 0});
        checkParts("none of what is left to a measure of 0", 1, new int[] {0, 1, 1}, new int[] {0, 1, 0});
    }

    private static void alikeRestsLowestNumberFirst() {
        checkParts("two alike", 1, new int[] {7, 7}, new int[] {1, 0});
        checkParts("four alike, three left", 3, new int[] {2, 2, 2, 2}, new int[] {1, 1, 1, 0});
        checkParts("alike behind a smaller one", 1, new int[] {1, 2, 2}, new int[] {0, 1, 0});
        int[] all = fill(120);
        all[11] = 119;
        checkParts("twelve alike, eleven left", 1439, fill(60), all);
        int[] first = fill(119);
        first[0] = 120;
        checkParts("twelve alike, one left", 1429, fill(60), first);
    }

    private static int[] fill(int number) {
        int[] row = new int[12];
        java.util.Arrays.fill(row, number);
        return row;
    }

    private static void partsAmongTheBoatsOfACell() {
        HerringSea x = new HerringSea();
        for (int boat = 0; boat < 4; boat++) {
            x.boat(10);
            x.go(boat, boat % 2);
        }
        x.shoal(0, 5);
        x.shoal(1, 3);
        CHECK.due("both cells", x.night(false), 8);
        int[] want = {3, 2, 2, 1};
        for (int boat = 0; boat < 4; boat++) {
            CHECK.due("boat " + boat, x.told(boat, 5), want[boat]);
        }
    }

    private static void boatsStayToldForTheirCells() {
        HerringSea x = new HerringSea();
        twoBoats(x);
        x.open(3, true);
        x.night(true);
        CHECK.due("behind a gale", x.told(0, 1), 3);
        x.night(false);
        CHECK.due("behind a night", x.told(1, 1), 4);
        CHECK.due("they go there again", x.night(false), 16 + 116);
    }

    private static void takenInTheLatestNight() {
        HerringSea x = new HerringSea();
        twoBoats(x);
        x.night(false);
        CHECK.due("taken", x.told(0, 5), 20);
        x.go(0, -1);
        CHECK.due("till the next night", x.told(0, 5), 20);
        x.night(false);
        CHECK.due("it stayed", x.told(0, 5), 0);
        x.go(0, 3);
        x.night(false);
        x.open(3, true);
        x.night(true);
        CHECK.due("in a gale", x.told(0, 5), 0);
        x.open(3, false);
        x.shoal(3, 1);
        x.night(true);
        CHECK.due("one", x.told(0, 5), 1);
        x.night(false);
        CHECK.due("none is left", x.told(0, 5), 0);
        CHECK.due("taken in all", x.told(0, 2), 41);
    }

    private static void toldIsNoneForOthers() {
        HerringSea x = new HerringSea();
        twoBoats(x);
        for (int what : new int[] {-1, 6, 7, LEAST, MOST}) {
            CHECK.due("told(0, " + what + ")", x.told(0, what), -1);
        }
    }
}
