/** Promises 1 to 4 and 21: a new object, cells, gales' openness, drift. */
public final class SeaTest {
    private static final Check CHECK = new Check("SeaTest");

    public static void main(String[] args) {
        newObject();
        shoals();
        openness();
        driftEachWay();
        driftAtTheRim();
        driftQuarters();
        driftOverflow();
        CHECK.end();
    }

    private static void newObject() {
        HerringSea x = new HerringSea();
        for (int c = 0; c < 36; c++) {
            CHECK.due("new cell(" + c + ", 0)", x.cell(c, 0), 0);
            CHECK.due("new cell(" + c + ", 1)", x.cell(c, 1), 0);
        }
        for (int what = 0; what <= 11; what++) {
            CHECK.due("new count(" + what + ")", x.count(what), 0);
        }
        CHECK.due("new told", x.told(0, 0), -1);
        CHECK.due("new lot", x.lot(0, 0), -1);
        CHECK.due("new coins", x.coins(0, 0), 0);
        CHECK.due("new fault", x.fault(), 0);
        CHECK.due("new judge", x.judge(0, 0), -1);
        CHECK.due("new branded", x.branded(0), -1);
        CHECK.due("new settle", x.settle(0), -1);
        HerringSea y = new HerringSea();
        x.shoal(3, 5);
        CHECK.due("objects are apart", y.cell(3, 0), 0);
    }

    private static void shoals() {
        HerringSea x = new HerringSea();
        CHECK.due("shoal(35, 10000)", x.shoal(35, 10000), true);
        CHECK.due("cell(35, 0)", x.cell(35, 0), 10000);
        CHECK.due("shoal(35, 7) sets, not adds", x.shoal(35, 7), true);
        CHECK.due("cell(35, 0)", x.cell(35, 0), 7);
        CHECK.due("shoal(35, 0)", x.shoal(35, 0), true);
        CHECK.due("cell(35, 0)", x.cell(35, 0), 0);
        CHECK.due("shoal(0, 10001)", x.shoal(0, 10001), false);
        CHECK.due("shoal(0, -1)", x.shoal(0, -1), false);
        CHECK.due("shoal(36, 1)", x.shoal(36, 1), false);
        CHECK.due("shoal(-1, 1)", x.shoal(-1, 1), false);
        CHECK.due("count(4)", x.count(4), 0);
        CHECK.due("cell(36, 0)", x.cell(36, 0), -1);
        CHECK.due("cell(-1, 0)", x.cell(-1, 0), -1);
        CHECK.due("cell(0, 2)", x.cell(0, 2), -1);
        CHECK.due("cell(0, -1)", x.cell(0, -1), -1);
    }

    private static void openness() {
        HerringSea x = new HerringSea();
        CHECK.due("open(0, false) is so", x.open(0, false), false);
        CHECK.due("open(0, true)", x.open(0, true), true);
        CHECK.due("cell(0, 1)", x.cell(0, 1), 1);
        CHECK.due("open(0, true) is so", x.open(0, true), false);
        CHECK.due("open(0, false)", x.open(0, false), true);
        CHECK.due("cell(0, 1)", x.cell(0, 1), 0);
        CHECK.due("open(35, true)", x.open(35, true), true);
        CHECK.due("open(36, true)", x.open(36, true), false);
        CHECK.due("open(-1, true)", x.open(-1, true), false);
        CHECK.due("cell(1, 1)", x.cell(1, 1), 0);
    }

    private static void driftEachWay() {
        int[] target = {14, 15, 13, 20, 8};
        for (int way = 0; way <= 4; way++) {
            HerringSea x = new HerringSea();
            x.shoal(14, 103);
            CHECK.due("drift(" + way + ")", x.drift(way), true);
            CHECK.due("drift(" + way + ") again", x.drift(way), true);
            x.night(false);
            CHECK.due("way " + way + " from", x.cell(14, 0), way == 0 ? 103 : 78);
            CHECK.due("way " + way + " to", x.cell(target[way], 0), way == 0 ? 103 : 25);
            CHECK.due("way " + way + " in all", x.count(4), 103);
            CHECK.due("drift(-1)", x.drift(-1), false);
            CHECK.due("drift(5)", x.drift(5), false);
            x.night(true);
            CHECK.due("way " + way + " goes on", x.cell(14, 0), way == 0 ? 103 : 59);
        }
    }

    private static void driftAtTheRim() {
        for (int way = 1; way <= 4; way++) {
            HerringSea x = new HerringSea();
            for (int c = 0; c < 36; c++) {
                x.shoal(c, 400);
            }
            x.drift(way);
            x.night(false);
            for (int c = 0; c < 36; c++) {
                int along = way <= 2 ? c % 6 : c / 6;
                int last = way % 2 == 1 ? 5 : 0;
                int want = along == last ? 500 : along == 5 - last ? 300 : 400;
                CHECK.due("rim, way " + way + ", cell " + c, x.cell(c, 0), want);
            }
            CHECK.due("rim, gone", x.count(8), 0);
        }
    }

    private static void driftQuarters() {
        HerringSea x = new HerringSea();
        x.drift(1);
        x.shoal(0, 3);
        x.shoal(1, 7);
        x.shoal(2, 8);
        x.night(false);
        CHECK.due("3 stay", x.cell(0, 0), 3);
        CHECK.due("of 7 one goes", x.cell(1, 0), 6);
        CHECK.due("of 8 two go, one comes", x.cell(2, 0), 7);
        CHECK.due("two come", x.cell(3, 0), 2);
        HerringSea y = new HerringSea();
        y.drift(1);
        y.shoal(0, 100);
        y.boat(10);
        y.go(0, 0);
        y.night(false);
        CHECK.due("quarter behind the haul", y.cell(1, 0), 20);
        CHECK.due("rest behind the haul", y.cell(0, 0), 60);
    }

    private static void driftOverflow() {
        HerringSea x = new HerringSea();
        x.drift(4);
        x.shoal(1, 9000);
        x.shoal(7, 9001);
        x.night(false);
        CHECK.due("no more than 10000", x.cell(1, 0), 10000);
        CHECK.due("others stay", x.cell(7, 0), 6751);
        CHECK.due("gone to sea", x.count(8), 1250);
        x.night(false);
        CHECK.due("gone to sea adds up", x.count(8), 1250 + 1687);
        HerringSea y = new HerringSea();
        y.drift(1);
        y.shoal(4, 4);
        y.shoal(5, 9999);
        y.night(false);
        CHECK.due("just 10000", y.cell(5, 0), 10000);
        CHECK.due("none gone", y.count(8), 0);
    }
}
