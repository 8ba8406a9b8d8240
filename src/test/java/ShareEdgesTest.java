/** Edges that the document names of shares and money: promises 18 to 20; a method a sentence. */
public final class ShareEdgesTest {
    private static final Check CHECK = new Check("ShareEdgesTest");
    private static final int LEAST = Integer.MIN_VALUE;
    private static final int MOST = Integer.MAX_VALUE;

    public static void main(String[] args) {
        handsAre0To7();
        partsAre0To100();
        partsAre0AtFirst();
        nothingIsOwed();
        allPartsAre0();
        owedTillItIsSettled();
        partsAsTheyAreThen();
        partIsCut();
        restsGoByOnesToTheGreatest();
        alikeRestsLowestHandFirst();
        greatMoney();
        everyBoatHasItsOwnHands();
        coinsInAll();
        coinsAre0ForOthers();
        CHECK.end();
    }

    /** A boat to which so many coins are owed, at a coin a cran. */
    private static void owe(HerringSea x, int coins) {
        x.yard(6, 500);
        x.bid(0, 1);
        x.go(x.boat(60), 0);
        x.shoal(0, coins);
        x.night(false);
    }

    private static HerringSea owed(int coins) {
        HerringSea x = new HerringSea();
        owe(x, coins);
        return x;
    }

    private static void handsAre0To7() {
        HerringSea x = owed(100);
        CHECK.due("hand 0", x.share(0, 0, 1), true);
        CHECK.due("hand 7", x.share(0, 7, 1), true);
        x.settle(0);
        CHECK.due("coins of hand 0", x.coins(0, 0), 50);
        CHECK.due("coins of hand 7", x.coins(0, 7), 50);
        for (int hand : new int[] {-1, 8, 9, 12, LEAST, MOST}) {
            new Twins(CHECK, "no such hand").both(y -> owe(y, 100)).both(y -> y.share(0, 3, 1))
                .isFalse("share(0, " + hand + ", 5)", y -> y.share(0, hand, 5))
                .is("coins(0, " + hand + ")", 0, y -> y.coins(0, hand))
                .both(y -> y.settle(0)).alike();
        }
    }

    private static void partsAre0To100() {
        HerringSea x = owed(101);
        CHECK.due("parts 100", x.share(0, 0, 100), true);
        CHECK.due("parts 1", x.share(0, 1, 1), true);
        CHECK.due("parts 5", x.share(0, 2, 5), true);
        CHECK.due("parts 0", x.share(0, 2, 0), true);
        x.settle(0);
        CHECK.due("coins by 100 parts", x.coins(0, 0), 100);
        CHECK.due("coins by 1 part", x.coins(0, 1), 1);
        CHECK.due("coins by 0 parts", x.coins(0, 2), 0);
        for (int parts : new int[] {-1, 101, 102, LEAST, MOST}) {
            new Twins(CHECK, "parts out of bounds").both(y -> owe(y, 100)).both(y -> y.share(0, 3, 1))
                .both(y -> y.share(0, 4, 2)).isFalse("share(0, 4, " + parts + ")", y -> y.share(0, 4, parts))
                .isFalse("share(0, 5, " + parts + ")", y -> y.share(0, 5, parts)).both(y -> y.settle(0)).alike();
        }
    }

    private static void partsAre0AtFirst() {
        CHECK.due("nobody to get it", owed(10).settle(0), -1);
        HerringSea x = owed(10);
        x.share(0, 6, 1);
        x.settle(0);
        for (int hand = 0; hand < 8; hand++) {
            CHECK.due("coins of hand " + hand, x.coins(0, hand), hand == 6 ? 10 : 0);
        }
    }

    private static void nothingIsOwed() {
        new Twins(CHECK, "nothing is owed").both(x -> x.boat(5)).both(x -> x.share(0, 0, 1))
            .isNone("settle(0)", x -> x.settle(0)).alike();
        HerringSea x = owed(1);
        x.share(0, 0, 1);
        CHECK.due("one coin", x.settle(0), 1);
        CHECK.due("it is settled", x.settle(0), -1);
        CHECK.due("coins", x.coins(0, 0), 1);
        x.bid(0, 0);
        x.shoal(0, 50);
        x.night(false);
        CHECK.due("sold for nothing", x.settle(0), -1);
    }

    private static void allPartsAre0() {
        new Twins(CHECK, "all parts are 0").both(x -> owe(x, 70)).both(x -> x.share(0, 2, 9))
            .both(x -> x.share(0, 2, 0)).isNone("settle(0)", x -> x.settle(0))
            .alike().both(x -> CHECK.due("still owed", x.told(0, 3), 70)).both(x -> x.share(0, 1, 1))
            .both(x -> CHECK.due("settled later", x.settle(0), 70)).alike();
    }

    private static void owedTillItIsSettled() {
        HerringSea x = owed(60);
        x.share(0, 0, 1);
        x.shoal(0, 40);
        x.night(false);
        CHECK.due("owed of two nights", x.told(0, 3), 100);
        CHECK.due("coins till then", x.coins(0, 0), 0);
        CHECK.due("settle(0)", x.settle(0), 100);
        CHECK.due("owed then", x.told(0, 3), 0);
        x.shoal(0, 7);
        x.night(false);
        CHECK.due("owed anew", x.told(0, 3), 7);
        CHECK.due("coins till then", x.coins(0, 0), 100);
    }

    private static void partsAsTheyAreThen() {
        HerringSea x = new HerringSea();
        x.yard(1, 500);
        x.bid(0, 2);
        x.go(x.boat(60), 0);
        x.shoal(0, 45);
        x.share(0, 0, 100);
        x.night(false);
        x.share(0, 0, 1);
        x.share(0, 5, 2);
        x.settle(0);
        CHECK.due("one of three", x.coins(0, 0), 30);
        CHECK.due("two of three", x.coins(0, 5), 60);
        x.share(0, 0, 100);
        CHECK.due("what was got stays", x.coins(0, 0), 30);
    }

    private static void checkParts(String why, int coins, int[] parts, int[] want) {
        HerringSea x = owed(coins);
        for (int hand = 0; hand < parts.length; hand++) {
            x.share(0, hand, parts[hand]);
        }
        CHECK.due(why, x.settle(0), coins);
        for (int hand = 0; hand < parts.length; hand++) {
            CHECK.due(why + ", hand " + hand, x.coins(0, hand), want[hand]);
        }
    }

    private static void partIsCut() {
        checkParts("nothing is left", 8, new int[] {1, 1, 1, 1, 1, 1, 1, 1}, new int[] {1, 1, 1, 1, 1, 1, 1, 1});
        checkParts("one hand alone", 7, new int[] {0, 0, 0, 100}, new int[] {0, 0, 0, 7});
        checkParts("parts of 0", 9, new int[] {0, 2, 0, 1}, new int[] {0, 6, 0, 3});
    }

    private static void restsGoByOnesToTheGreatest() {
        checkParts("the last has the greatest rest", 1, new int[] {1, 1, 2}, new int[] {0, 0, 1});
        checkParts("cut 1, 1, 7, rests 4, 4, 6", 11, new int[] {1, 1, 5}, new int[] {2, 1, 8});
        checkParts("cut 9, 0, 0, rests 92, 5, 5", 10, new int[] {100, 1, 1}, new int[] {10, 0, 0});
        checkParts("six left", 7, new int[] {1, 1, 1, 1, 1, 1, 1, 2}, new int[] {1, 1, 1, 1, 1, 1, 0, 1});
    }

    private static void alikeRestsLowestHandFirst() {
        checkParts("two alike", 1, new int[] {0, 9, 9}, new int[] {0, 1, 0});
        checkParts("eight alike, seven left", 7, new int[] {3, 3, 3, 3, 3, 3, 3, 3}, new int[] {1, 1, 1, 1, 1, 1, 1, 0});
        checkParts("eight alike, one left", 9, new int[] {3, 3, 3, 3, 3, 3, 3, 3}, new int[] {2, 1, 1, 1, 1, 1, 1, 1});
    }

    private static void greatMoney() {
        HerringSea x = new HerringSea();
        x.yard(6, 500);
        x.bid(0, 100);
        x.go(x.boat(60), 0);
        for (int night = 0; night < 300; night++) {
            if (night % 75 == 0) {
                x.shoal(0, 10000);
            }
            x.night(false);
        }
        CHECK.due("owed of 300 nights", x.told(0, 3), 3600000);
        for (int hand = 0; hand < 8; hand++) {
            x.share(0, hand, hand == 7 ? 99 : 100);
        }
        CHECK.due("settle(0)", x.settle(0), 3600000);
        // 360,000,000 by 799 is 450,563 rest 163; 356,400,000 by 799 is 446,057 rest 457; two are left.
        CHECK.due("coins of hand 0", x.coins(0, 0), 450564);
        CHECK.due("coins of hand 1", x.coins(0, 1), 450563);
        CHECK.due("coins of hand 6", x.coins(0, 6), 450563);
        CHECK.due("coins of hand 7", x.coins(0, 7), 446058);
    }

    private static void everyBoatHasItsOwnHands() {
        HerringSea x = new HerringSea();
        x.yard(6, 500);
        x.bid(0, 1);
        for (int boat = 0; boat < 12; boat++) {
            x.go(x.boat(10), boat);
            x.share(boat, boat % 8, 1);
            x.share(boat, 7, 1);
        }
        x.shoal(11, 20);
        x.shoal(0, 20);
        x.night(false);
        CHECK.due("settle(11)", x.settle(11), 20);
        CHECK.due("a hand of boat 11", x.coins(11, 3), 10);
        CHECK.due("a hand of boat 11", x.coins(11, 7), 10);
        CHECK.due("boat 0 is not settled", x.told(0, 3), 20);
        CHECK.due("a hand of boat 0", x.coins(0, 7), 0);
        CHECK.due("owed in all", x.count(10), 20);
        CHECK.due("settle(0)", x.settle(0), 20);
        CHECK.due("owed in all", x.count(10), 0);
        x.shoal(0, 1);
        for (int boat = 0; boat < 12; boat++) {
            x.go(boat, 0);
        }
        x.night(false);
        CHECK.due("the measures of a haul are no parts of a boat", x.settle(0), 1);
        CHECK.due("one coin more", x.coins(0, 0), 11);
    }

    private static void coinsInAll() {
        HerringSea x = owed(10);
        x.share(0, 0, 1);
        x.settle(0);
        x.share(0, 0, 0);
        x.share(0, 1, 1);
        x.shoal(0, 5);
        x.night(false);
        x.settle(0);
        CHECK.due("a hand without parts keeps its coins", x.coins(0, 0), 10);
        CHECK.due("the other hand", x.coins(0, 1), 5);
        x.share(0, 0, 1);
        x.shoal(0, 4);
        x.night(false);
        x.settle(0);
        CHECK.due("in all", x.coins(0, 0), 12);
        CHECK.due("in all", x.coins(0, 1), 7);
    }

    private static void coinsAre0ForOthers() {
        HerringSea x = owed(100);
        for (int hand = 0; hand < 8; hand++) {
            x.share(0, hand, 1);
        }
        x.settle(0);
        for (int other : new int[] {-1, 8, 9, LEAST, MOST}) {
            CHECK.due("coins(0, " + other + ")", x.coins(0, other), 0);
        }
        for (int other : new int[] {-1, 1, 11, 12, LEAST, MOST}) {
            CHECK.due("coins(" + other + ", 0)", x.coins(other, 0), 0);
        }
        CHECK.due("coins of no boat", new HerringSea().coins(0, 0), 0);
    }
}
