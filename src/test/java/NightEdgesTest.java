/** Edges that the document names of nights, counts and a new object: promises 1, 11 and 24; a method a sentence. */
public final class NightEdgesTest {
    private static final Check CHECK = new Check("NightEdgesTest");

    public static void main(String[] args) {
        allIsAsToldAtFirst();
        nightsAre300AtMost();
        noNightBehindTheLast();
        emptyNights();
        callsAre512();
        countIsNoneForOthers();
        countsGoOnInAll();
        CHECK.end();
    }

    private static void allIsAsToldAtFirst() {
        HerringSea x = new HerringSea();
        for (int what = 0; what <= 11; what++) {
            CHECK.due("count(" + what + ") at first", x.count(what), 0);
        }
        CHECK.due("no boat", x.told(0, 0), -1);
        CHECK.due("no lot", x.lot(0, 0), -1);
        CHECK.due("no bytes", x.fault(), 0);
        x.boat(3);
        for (int hand = 0; hand < 8; hand++) {
            CHECK.due("no coins", x.coins(0, hand), 0);
        }
    }

    private static void aSeason(HerringSea x) {
        x.drift(1);
        x.shoal(0, 10000);
        x.shoal(1, 10000);
        x.open(1, true);
        x.boat(1);
        x.boat(20);
        x.go(0, 0);
        x.go(1, 1);
        x.yard(1, 3);
        x.bid(0, 2);
        x.share(0, 2, 1);
        for (int night = 0; night < 300; night++) {
            x.night(false);
        }
    }

    private static void nightsAre300AtMost() {
        HerringSea x = new HerringSea();
        CHECK.due("NOW at first", x.count(0), 0);
        for (int night = 0; night < 300; night++) {
            CHECK.due("night " + night, x.night(night % 2 == 0), 0);
            if (night % 23 == 0 || night == 299) {
                CHECK.due("NOW", x.count(0), night + 1);
            }
        }
        CHECK.due("a night more", x.night(false), -1);
        CHECK.due("a gale more", x.night(true), -1);
        CHECK.due("NOW", x.count(0), 300);
    }

    private static void noNightBehindTheLast() {
        new Twins(CHECK, "NOW is 300").both(NightEdgesTest::aSeason)
            .both(x -> x.shoal(0, 5000)).both(x -> x.shoal(5, 10000))
            .isNone("night", x -> x.night(false)).isNone("gale", x -> x.night(true)).alike();
        HerringSea x = new HerringSea();
        aSeason(x);
        CHECK.due("shoals may be told still", x.shoal(0, 7), true);
        CHECK.due("boats may be made still", x.boat(7), 2);
        CHECK.due("money may be settled still", x.settle(0) > 0, true);
        CHECK.due("lots may be judged still", Tape.brand(x, 0, "a=300"), true);
        CHECK.due("a lot of night 0 is 300 nights old", x.judge(0, 0), 1);
    }

    private static void emptyNights() {
        HerringSea x = new HerringSea();
        CHECK.due("nothing at all", x.night(false), 0);
        CHECK.due("nothing at all in a gale", x.night(true), 0);
        x.yard(1, 1);
        CHECK.due("a yard alone", x.night(false), 0);
        x.boat(60);
        CHECK.due("a boat that stays", x.night(false), 0);
        x.go(0, 0);
        CHECK.due("an empty cell", x.night(false), 0);
        x.shoal(1, 100);
        CHECK.due("a shoal elsewhere", x.night(false), 0);
        CHECK.due("NOW", x.count(0), 6);
        CHECK.due("no lots", x.count(3), 0);
        CHECK.due("nothing thrown away", x.count(9), 0);
    }

    private static void callsAre512() {
        HerringSea x = new HerringSea();
        for (int call = 1; call <= 511; call++) {
            x.shoal(call % 36, call);
        }
        CHECK.due("the 512th call", x.cell(511 % 36, 0), 511);
    }

    private static void countIsNoneForOthers() {
        HerringSea x = new HerringSea();
        aSeason(x);
        for (int what : new int[] {-1, 12, 13, 255, 256, Integer.MIN_VALUE, Integer.MAX_VALUE}) {
            CHECK.due("count(" + what + ")", x.count(what), -1);
        }
    }

    private static void countsGoOnInAll() {
        HerringSea x = new HerringSea();
        x.soft(0);
        x.yard(1, 3);
        x.bid(0, 4);
        x.boat(2);
        x.boat(1);
        x.go(0, 0);
        x.go(1, 5);
        x.drift(1);
        x.feed(0x20000020, 0, 0, 0, 0);
        for (int night = 1; night <= 3; night++) {
            x.shoal(0, 4);
            x.shoal(4, 4);
            x.shoal(5, 10000);
            CHECK.due("taken", x.night(false), 6);
            // Of 4 and 2 crans 3 are sold, 1 of them cured; 1 of cell 4 comes to the 9998 of cell 5.
            int[] want = {night, 2, 1, night, 10002, 6 * night, night, 2 * night, 0, 3 * night, 12 * night, 2};
            for (int what = 0; what < 12; what++) {
                CHECK.due("night " + night + ", count(" + what + ")", x.count(what), want[what]);
            }
        }
        x.share(0, 0, 1);
        x.settle(0);
        CHECK.due("what is settled is not owed", x.count(10), 0);
    }
}
