/** Edges that the document names of cells and shoals: promises 1 to 4 and 21, the drift of 11; a method a sentence. */
public final class CellEdgesTest {
    private static final Check CHECK = new Check("CellEdgesTest");
    private static final int LEAST = Integer.MIN_VALUE;
    private static final int MOST = Integer.MAX_VALUE;
    private static final int[] NO_CELLS = {-1, 36, 37, -36, 256, 65536, LEAST, MOST};

    public static void main(String[] args) {
        cellsAre0To35();
        cransAre0AtFirst();
        cransAre0To10000();
        noCellIsOpenAtFirst();
        openIsFalseIfItIsSo();
        driftIs0AtFirst();
        driftIs0To4();
        driftIsForAllNightsFromNowOn();
        quarterIsCut();
        quarterIsOfWhatIsBehindTheHauls();
        quartersGoAtOnce();
        eachCellHasItsNext();
        atTheRimItStays();
        rimDoesNotWrapAround();
        cellsHave10000AtMost();
        goneToSeaIsCountedInAll();
        cellIsNoneForOthers();
        CHECK.end();
    }

    private static void cellsAre0To35() {
        HerringSea x = new HerringSea();
        x.boat(1);
        for (int cell : new int[] {0, 35}) {
            CHECK.due("shoal of cell " + cell, x.shoal(cell, 9), true);
            CHECK.due("open of cell " + cell, x.open(cell, true), true);
            CHECK.due("go to cell " + cell, x.go(0, cell), true);
            CHECK.due("crans of cell " + cell, x.cell(cell, 0), 9);
            CHECK.due("openness of cell " + cell, x.cell(cell, 1), 1);
        }
        CHECK.due("no other cell has crans", x.count(4), 18);
        for (int cell : NO_CELLS) {
            Twins twins = new Twins(CHECK, "no such cell " + cell).both(CellEdgesTest::aFleet);
            twins.isFalse("shoal", y -> y.shoal(cell, 1)).isFalse("open", y -> y.open(cell, true));
            twins.isFalse("not open", y -> y.open(cell, false));
            twins.isNone("crans", y -> y.cell(cell, 0)).isNone("openness", y -> y.cell(cell, 1));
            twins.both(y -> y.night(true)).alike();
        }
    }

    private static void aFleet(HerringSea x) {
        x.shoal(0, 100);
        x.shoal(35, 100);
        x.open(35, true);
        x.boat(10);
        x.go(0, 35);
        x.boat(5);
        x.go(1, 0);
        x.yard(1, 100);
        x.bid(0, 3);
        x.drift(3);
    }

    private static void cransAre0AtFirst() {
        HerringSea x = new HerringSea();
        for (int cell = 0; cell < 36; cell++) {
            CHECK.due("crans at first of " + cell, x.cell(cell, 0), 0);
        }
        x.boat(60);
        x.go(0, 0);
        CHECK.due("nothing to take at first", x.night(false), 0);
        CHECK.due("crans in the sea at first", x.count(4), 0);
    }

    private static void cransAre0To10000() {
        HerringSea x = new HerringSea();
        for (int crans : new int[] {10000, 9999, 1, 0}) {
            CHECK.due("shoal(7, " + crans + ")", x.shoal(7, crans), true);
            CHECK.due("crans then", x.cell(7, 0), crans);
        }
        for (int crans : new int[] {-1, 10001, 65536, LEAST, MOST}) {
            new Twins(CHECK, "crans out of bounds").both(CellEdgesTest::aFleet)
                .isFalse("shoal(0, " + crans + ")", y -> y.shoal(0, crans)).both(y -> y.night(false)).alike();
        }
        for (int cell = 0; cell < 36; cell++) {
            x.shoal(cell, 10000);
        }
        CHECK.due("a full sea", x.count(4), 360000);
    }

    private static void noCellIsOpenAtFirst() {
        HerringSea x = new HerringSea();
        for (int cell = 0; cell < 36; cell++) {
            CHECK.due("open at first " + cell, x.cell(cell, 1), 0);
        }
        x.boat(10);
        x.go(0, 35);
        x.shoal(35, 100);
        CHECK.due("a gale over cells that are not open", x.night(true), 20);
        CHECK.due("no nets lost", x.told(0, 4), 0);
    }

    private static void openIsFalseIfItIsSo() {
        HerringSea x = new HerringSea();
        CHECK.due("it is not open already", x.open(17, false), false);
        CHECK.due("still not open", x.cell(17, 1), 0);
        CHECK.due("open", x.open(17, true), true);
        CHECK.due("it is open already", x.open(17, true), false);
        CHECK.due("still open", x.cell(17, 1), 1);
        CHECK.due("not open again", x.open(17, false), true);
        CHECK.due("not open then", x.cell(17, 1), 0);
        CHECK.due("it is not open already", x.open(17, false), false);
    }

    private static void driftIs0AtFirst() {
        HerringSea x = new HerringSea();
        x.shoal(14, 400);
        x.night(false);
        CHECK.due("shoals stay at first", x.cell(14, 0), 400);
    }

    private static void driftIs0To4() {
        int[] next = {14, 15, 13, 20, 8};
        for (int way = 0; way <= 4; way++) {
            HerringSea x = new HerringSea();
            x.shoal(14, 400);
            CHECK.due("drift(" + way + ")", x.drift(way), true);
            x.night(false);
            CHECK.due("drift " + way + " from", x.cell(14, 0), way == 0 ? 400 : 300);
            CHECK.due("drift " + way + " to", x.cell(next[way], 0), way == 0 ? 400 : 100);
        }
        for (int way : new int[] {-1, 5, 6, LEAST, MOST}) {
            new Twins(CHECK, "no such drift").both(CellEdgesTest::aFleet)
                .isFalse("drift(" + way + ")", y -> y.drift(way)).both(y -> y.night(false)).alike();
        }
    }

    private static void driftIsForAllNightsFromNowOn() {
        HerringSea x = new HerringSea();
        x.shoal(0, 64);
        x.drift(1);
        x.night(false);
        x.night(true);
        CHECK.due("two nights, first", x.cell(0, 0), 36);
        CHECK.due("two nights, second", x.cell(1, 0), 24);
        CHECK.due("two nights, third", x.cell(2, 0), 4);
        CHECK.due("the same drift is told again", x.drift(1), true);
        x.drift(0);
        x.night(false);
        CHECK.due("they stay from now on", x.cell(0, 0), 36);
        CHECK.due("they stay from now on", x.cell(2, 0), 4);
    }

    private static void quarterIsCut() {
        int[] crans = {0, 1, 3, 4, 5, 7, 8, 9999, 10000};
        int[] goes = {0, 0, 0, 1, 1, 1, 2, 2499, 2500};
        for (int i = 0; i < crans.length; i++) {
            HerringSea x = new HerringSea();
            x.drift(2);
            x.shoal(5, crans[i]);
            x.night(false);
            CHECK.due("of " + crans[i] + " go", x.cell(4, 0), goes[i]);
            CHECK.due("of " + crans[i] + " stay", x.cell(5, 0), crans[i] - goes[i]);
        }
    }

    private static void quarterIsOfWhatIsBehindTheHauls() {
        HerringSea x = new HerringSea();
        x.drift(1);
        x.boat(1);
        x.go(0, 0);
        x.shoal(0, 5);
        x.night(false);
        CHECK.due("behind the haul 3 are too few", x.cell(0, 0), 3);
        CHECK.due("behind the haul 3 are too few", x.cell(1, 0), 0);
        HerringSea y = new HerringSea();
        y.drift(1);
        y.boat(1);
        y.go(0, 1);
        y.shoal(0, 8);
        CHECK.due("what drifts in comes too late for the haul", y.night(false), 0);
        CHECK.due("and is there the next night", y.night(false), 2);
    }

    private static void quartersGoAtOnce() {
        for (int way = 1; way <= 4; way++) {
            int step = way == 1 ? 1 : way == 2 ? -1 : way == 3 ? 6 : -6;
            HerringSea x = new HerringSea();
            x.drift(way);
            x.shoal(14, 16);
            x.shoal(14 + step, 2);
            x.night(false);
            CHECK.due("what came in does not go on, way " + way, x.cell(14 + step, 0), 6);
            CHECK.due("none is two cells off, way " + way, x.cell(14 + 2 * step, 0), 0);
        }
    }

    private static void eachCellHasItsNext() {
        int[] dx = {0, 1, -1, 0, 0};
        int[] dy = {0, 0, 0, 1, -1};
        for (int way = 0; way <= 4; way++) {
            for (int cell = 0; cell < 36; cell++) {
                int x = cell % 6 + dx[way];
                int y = cell / 6 + dy[way];
                boolean stays = way == 0 || x < 0 || x > 5 || y < 0 || y > 5;
                HerringSea sea = new HerringSea();
                sea.drift(way);
                sea.shoal(cell, 40);
                sea.night(false);
                CHECK.due("way " + way + ", stay in " + cell, sea.cell(cell, 0), stays ? 40 : 30);
                CHECK.due("way " + way + ", go from " + cell, sea.cell(6 * y + x, 0), stays ? outside(way, cell) : 10);
                CHECK.due("in the sea", sea.count(4), 40);
            }
        }
    }

    /** What is in the cell that a wrap-around would reach: the same one (way 0), none such (beyond the rows), or 0. */
    private static int outside(int way, int cell) {
        if (way == 0) {
            return 40;
        }
        int reached = cell + (way == 1 ? 1 : way == 2 ? -1 : way == 3 ? 6 : -6);
        return reached < 0 || reached > 35 ? -1 : 0;
    }

    private static void atTheRimItStays() {
        for (int way = 1; way <= 4; way++) {
            for (int i = 0; i < 6; i++) {
                int cell = way == 1 ? 6 * i + 5 : way == 2 ? 6 * i : way == 3 ? 30 + i : i;
                HerringSea x = new HerringSea();
                x.drift(way);
                x.shoal(cell, 10000);
                x.night(false);
                CHECK.due("it stays in " + cell + ", way " + way, x.cell(cell, 0), 10000);
                CHECK.due("nothing elsewhere", x.count(4), 10000);
                CHECK.due("nothing is gone", x.count(8), 0);
            }
        }
    }

    private static void rimDoesNotWrapAround() {
        int[] ways = {1, 2, 3, 4, 1, 2};
        int[] froms = {5, 30, 33, 2, 35, 0};
        for (int i = 0; i < ways.length; i++) {
            HerringSea x = new HerringSea();
            x.drift(ways[i]);
            x.shoal(froms[i], 400);
            for (int night = 0; night < 10; night++) {
                x.night(false);
            }
            for (int cell = 0; cell < 36; cell++) {
                CHECK.due("from " + froms[i] + " in " + cell, x.cell(cell, 0), cell == froms[i] ? 400 : 0);
            }
        }
    }

    private static void cellsHave10000AtMost() {
        int[] there = {7499, 7500, 7501, 10000};
        for (int crans : there) {
            HerringSea x = new HerringSea();
            x.drift(1);
            x.shoal(4, 10000);
            x.shoal(5, crans);
            x.night(false);
            CHECK.due(crans + " and 2500", x.cell(5, 0), Math.min(crans + 2500, 10000));
            CHECK.due(crans + " and 2500, gone", x.count(8), Math.max(0, crans - 7500));
            CHECK.due("what goes leaves its cell all the same", x.cell(4, 0), 7500);
        }
        HerringSea y = new HerringSea();
        y.drift(4);
        y.shoal(8, 10000);
        y.shoal(14, 10000);
        y.night(false);
        CHECK.due("as many go as come", y.cell(8, 0), 10000);
        CHECK.due("none is gone", y.count(8), 0);
    }

    private static void goneToSeaIsCountedInAll() {
        HerringSea x = new HerringSea();
        x.drift(3);
        for (int cell = 0; cell < 36; cell++) {
            x.shoal(cell, 10000);
        }
        x.night(false);
        CHECK.due("six cells at the rim", x.count(8), 15000);
        CHECK.due("crans in the sea", x.count(4), 345000);
        for (int cell = 24; cell < 30; cell++) {
            x.shoal(cell, 4);
        }
        x.night(false);
        CHECK.due("one more of each column", x.count(8), 15006);
        x.shoal(30, 0);
        CHECK.due("a shoal that is told anew is not gone", x.count(8), 15006);
    }

    private static void cellIsNoneForOthers() {
        HerringSea x = new HerringSea();
        x.shoal(0, 5);
        for (int what : new int[] {-1, 2, 3, LEAST, MOST}) {
            CHECK.due("cell(0, " + what + ")", x.cell(0, what), -1);
            CHECK.due("cell(36, " + what + ")", x.cell(36, what), -1);
        }
    }
}
