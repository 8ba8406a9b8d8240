/** Promises 5 to 7, 11 and 22: boats, where they go, nets, nights at sea. */
public final class FleetTest {
    private static final Check CHECK = new Check("FleetTest");

    public static void main(String[] args) {
        boats();
        going();
        mending();
        hauls();
        parting();
        gales();
        lastNight();
        CHECK.end();
    }

    private static void boats() {
        HerringSea x = new HerringSea();
        CHECK.due("boat(-1)", x.boat(-1), -1);
        CHECK.due("boat(61)", x.boat(61), -1);
        CHECK.due("count(1)", x.count(1), 0);
        for (int b = 0; b < 12; b++) {
            CHECK.due("boat " + b, x.boat(b * 5), b);
            CHECK.due("count(1)", x.count(1), b + 1);
        }
        CHECK.due("a thirteenth boat", x.boat(1), -1);
        CHECK.due("count(1)", x.count(1), 12);
        int[] fresh = {55, -1, 0, 0, 0, 0};
        for (int what = 0; what < 6; what++) {
            CHECK.due("told(11, " + what + ")", x.told(11, what), fresh[what]);
        }
        CHECK.due("told(0, 0)", x.told(0, 0), 0);
        CHECK.due("told(12, 0)", x.told(12, 0), -1);
        CHECK.due("told(-1, 0)", x.told(-1, 0), -1);
        CHECK.due("told(0, 6)", x.told(0, 6), -1);
        CHECK.due("told(0, -1)", x.told(0, -1), -1);
        CHECK.due("boat(60) in a new object", new HerringSea().boat(60), 0);
    }

    private static void going() {
        HerringSea x = new HerringSea();
        CHECK.due("go(0, 0) without boats", x.go(0, 0), false);
        x.boat(1);
        CHECK.due("go(0, 35)", x.go(0, 35), true);
        CHECK.due("told(0, 1)", x.told(0, 1), 35);
        CHECK.due("go(0, 36)", x.go(0, 36), false);
        CHECK.due("go(0, -2)", x.go(0, -2), false);
        CHECK.due("go(1, 0)", x.go(1, 0), false);
        CHECK.due("go(-1, 0)", x.go(-1, 0), false);
        CHECK.due("told(0, 1)", x.told(0, 1), 35);
        CHECK.due("go(0, 0)", x.go(0, 0), true);
        CHECK.due("told(0, 1)", x.told(0, 1), 0);
        CHECK.due("go(0, NONE)", x.go(0, -1), true);
        CHECK.due("told(0, 1)", x.told(0, 1), -1);
        CHECK.due("go(0, NONE) again", x.go(0, -1), true);
    }

    private static void mending() {
        HerringSea x = new HerringSea();
        CHECK.due("mend without boats", x.mend(0, 1), -1);
        x.boat(58);
        CHECK.due("mend(0, 0)", x.mend(0, 0), -1);
        CHECK.due("mend(0, -1)", x.mend(0, -1), -1);
        CHECK.due("mend(0, 3)", x.mend(0, 3), -1);
        CHECK.due("mend(0, most)", x.mend(0, Integer.MAX_VALUE), -1);
        CHECK.due("mend(0, least)", x.mend(0, Integer.MIN_VALUE), -1);
        CHECK.due("told(0, 0)", x.told(0, 0), 58);
        CHECK.due("mend(0, 1)", x.mend(0, 1), 59);
        CHECK.due("mend(0, 1)", x.mend(0, 1), 60);
        CHECK.due("mend(0, 1) more", x.mend(0, 1), -1);
        CHECK.due("mend(1, 1)", x.mend(1, 1), -1);
        CHECK.due("told(0, 4)", x.told(0, 4), 0);
    }

    private static void hauls() {
        HerringSea x = new HerringSea();
        x.boat(0);
        x.boat(3);
        x.boat(9);
        x.shoal(8, 100);
        x.go(0, 8);
        x.go(1, 8);
        CHECK.due("two a net", x.night(false), 6);
        CHECK.due("no nets, no crans", x.told(0, 5), 0);
        CHECK.due("three nets", x.told(1, 5), 6);
        CHECK.due("no cell, no crans", x.told(2, 5), 0);
        CHECK.due("cell(8, 0)", x.cell(8, 0), 94);
        CHECK.due("boats stay told", x.night(false), 6);
        CHECK.due("told(1, 2)", x.told(1, 2), 12);
        CHECK.due("told(1, 5)", x.told(1, 5), 6);
        CHECK.due("count(5)", x.count(5), 12);
        x.shoal(8, 5);
        CHECK.due("what there is", x.night(true), 5);
        CHECK.due("cell(8, 0)", x.cell(8, 0), 0);
        CHECK.due("nothing there", x.night(false), 0);
        CHECK.due("told(1, 5)", x.told(1, 5), 0);
        CHECK.due("told(1, 2)", x.told(1, 2), 17);
        CHECK.due("count(0)", x.count(0), 4);
        CHECK.due("count(9), no yards", x.count(9), 17);
        x.go(1, -1);
        x.shoal(8, 50);
        CHECK.due("nobody with nets there", x.night(false), 0);
    }

    private static void parting() {
        // 7 among 3, 3, 3: two each, the one left to the lowest number.
        checkParts(7, new int[] {3, 3, 3}, new int[] {3, 2, 2});
        // 5 among 1, 2, 4: 0 rest 5, 1 rest 3, 2 rest 6; two left to the greatest rests.
        checkParts(5, new int[] {1, 2, 4}, new int[] {1, 1, 3});
        checkParts(1, new int[] {1, 2, 2}, new int[] {0, 1, 0});
        checkParts(2, new int[] {0, 1, 5, 1}, new int[] {0, 0, 2, 0});
        checkParts(3, new int[] {2, 2, 2, 2}, new int[] {1, 1, 1, 0});
        checkParts(100, new int[] {1, 2, 3}, new int[] {2, 4, 6});
        checkParts(719, new int[] {60, 60, 60, 60, 60, 60}, new int[] {120, 120, 120, 120, 120, 119});
    }

    private static void checkParts(int crans, int[] nets, int[] want) {
        HerringSea x = new HerringSea();
        x.shoal(20, crans);
        int sum = 0;
        for (int b = 0; b < nets.length; b++) {
            x.boat(nets[b]);
            x.go(b, 20);
            sum += want[b];
        }
        CHECK.due("night of " + crans, x.night(false), sum);
        for (int b = 0; b < nets.length; b++) {
            CHECK.due("of " + crans + " boat " + b, x.told(b, 5), want[b]);
        }
    }

    private static void gales() {
        HerringSea x = new HerringSea();
        x.open(10, true);
        x.shoal(10, 500);
        x.shoal(11, 500);
        x.boat(4);
        x.boat(9);
        x.boat(60);
        x.boat(10);
        x.boat(10);
        x.go(0, 10);
        x.go(1, 10);
        x.go(2, 10);
        x.go(3, 11);
        CHECK.due("in a gale", x.night(true), 20);
        int[] nets = {4, 8, 48, 10, 10};
        int[] lost = {0, 1, 12, 0, 0};
        for (int b = 0; b < 5; b++) {
            CHECK.due("nets of " + b, x.told(b, 0), nets[b]);
            CHECK.due("lost of " + b, x.told(b, 4), lost[b]);
            CHECK.due("took of " + b, x.told(b, 5), b == 3 ? 20 : 0);
        }
        CHECK.due("open cell keeps its crans", x.cell(10, 0), 500);
        x.night(true);
        CHECK.due("lost in all", x.told(2, 4), 21);
        CHECK.due("no gale", x.night(false), 2 * (4 + 7 + 39) + 20);
        CHECK.due("no nets lost", x.told(2, 4), 21);
        x.open(10, false);
        CHECK.due("gale, not open", x.night(true), 2 * (4 + 7 + 39) + 20);
        CHECK.due("no nets lost", x.told(2, 4), 21);
    }

    private static void lastNight() {
        HerringSea x = new HerringSea();
        x.boat(1);
        x.go(0, 0);
        x.shoal(0, 10000);
        for (int n = 0; n < 300; n++) {
            CHECK.due("night " + n, x.night(n % 2 == 0), 2);
        }
        CHECK.due("count(0)", x.count(0), 300);
        CHECK.due("a night more", x.night(false), -1);
        CHECK.due("count(0)", x.count(0), 300);
        CHECK.due("cell(0, 0)", x.cell(0, 0), 9400);
        CHECK.due("told(0, 5)", x.told(0, 5), 2);
    }
}
