/** Edges that the document names of the tape and of texts: promises 12 to 17; a method a sentence. */
public final class TextEdgesTest {
    private static final Check CHECK = new Check("TextEdgesTest");
    private static final int LEAST = Integer.MIN_VALUE;
    private static final int MOST = Integer.MAX_VALUE;
    private static final String BEGIN = " (cswap";
    private static final String SIGNS = " =<>";
    private static final String DIGITS = "0123456789";

    public static void main(String[] args) {
        highestByteFirst();
        bytesOf0AreLeftOut();
        eachByteOfTheTwentyCounts();
        tapeHas200BytesAtMost();
        feedBeyond200ChangesNothing();
        endKeepsTheFirstBytes();
        endIsFalseForWrongN();
        faultOfNoBytesIs0();
        faultIsTheLengthIfTheyEndTooEarly();
        eachByteThatMayGoOn();
        ninthBracket();
        sixthDigit();
        blanksBetweenAll();
        faultAtTheTapesEnd();
        brandsHaveNoTextAtFirst();
        brandsAre0To3();
        brandOfAFault();
        brandEmptiesTheTape();
        brandTakesAnotherText();
        judgeIsNoneForOthers();
        partsAndUnits();
        measuresAtTheirEdges();
        brandedIsTheLowest();
        CHECK.end();
    }

    private static void highestByteFirst() {
        int[] one = {0x633d3120, 0x26207320, 0x3c203520, 0x7c617c3e, 0x31000000};
        HerringSea x = new HerringSea();
        CHECK.due("bytes", x.feed(one[0], one[1], one[2], one[3], one[4]), 17);
        CHECK.due("c=1 & s < 5 |a|>1", x.fault(), 14);
        HerringSea y = new HerringSea();
        y.feed(0x61000000, 0x3d0000, 0x3100, 0x32, 0x33000000);
        CHECK.due("a=123", y.fault(), -1);
        y.end(4);
        CHECK.due("a=12", y.fault(), -1);
    }

    private static void bytesOf0AreLeftOut() {
        HerringSea x = new HerringSea();
        CHECK.due("five zeros", x.feed(0, 0, 0, 0, 0), 0);
        CHECK.due("a byte in each number", x.feed(0x63000000, 0x003d0000, 0x00003100, 0x00000032, 0x33003400), 6);
        CHECK.due("c=1234", x.fault(), -1);
        CHECK.due("five zeros", x.feed(0, 0, 0, 0, 0), 6);
        CHECK.due("twenty bytes", x.feed(-1, LEAST | 0x010101, MOST, 0x01010101, 0x20202020), 26);
    }

    private static void eachByteOfTheTwentyCounts() {
        for (int place = 0; place < 20; place++) {
            for (int value : new int[] {1, 2, 128, 255}) {
                int[] words = new int[5];
                words[place / 4] = value << (24 - 8 * (place % 4));
                HerringSea x = new HerringSea();
                String call = "byte " + value + " at place " + place;
                CHECK.due(call, x.feed(words[0], words[1], words[2], words[3], words[4]), 1);
                x.end(0);
                blanks(x, 199);
                CHECK.due(call + " is the 200th", x.feed(words[0], words[1], words[2], words[3], words[4]), 200);
                CHECK.due(call + " is the fault", x.fault(), 199);
                CHECK.due(call + " is the 201st", x.feed(words[0], words[1], words[2], words[3], words[4]), -1);
                CHECK.due(call + ", bytes", x.count(11), 200);
            }
        }
    }

    /** A tape of so many blanks. */
    private static void blanks(HerringSea x, int bytes) {
        Tape.feed(x, " ".repeat(bytes));
    }

    private static void tapeHas200BytesAtMost() {
        for (int bytes = 180; bytes <= 200; bytes++) {
            HerringSea x = new HerringSea();
            blanks(x, bytes);
            int has = x.feed(0x20202020, 0x20202020, 0x20202020, 0x20202020, 0x20202020);
            CHECK.due(bytes + " and twenty", has, bytes == 180 ? 200 : -1);
            CHECK.due(bytes + " then", x.count(11), bytes == 180 ? 200 : bytes);
        }
        HerringSea y = new HerringSea();
        blanks(y, 199);
        CHECK.due("199 and two", y.feed(0x20000000, 0, 0, 0, 0x20), -1);
        CHECK.due("199 and one", y.feed(0, 0, 0x20, 0, 0), 200);
        CHECK.due("200 and one", y.feed(0, 0x2000, 0, 0, 0), -1);
        CHECK.due("200 and none", y.feed(0, 0, 0, 0, 0), 200);
    }

    private static void feedBeyond200ChangesNothing() {
        for (int i = 0; i < 5; i++) {
            int[] words = new int[5];
            words[i] = 0x20202020;
            new Twins(CHECK, "more than 200").both(x -> blanks(x, 194)).both(x -> Tape.feed(x, "c=1"))
                .isNone("feed", x -> x.feed(words[0], words[1], words[2], words[3], words[4])).alike()
                .both(x -> CHECK.due("the bytes are as they were", x.fault(), -1))
                .both(x -> CHECK.due("there is room still", x.feed(0x32, 0x33, 0x34, 0, 0), 200))
                .both(x -> CHECK.due("it is a text still", x.brand(0), true)).alike();
        }
    }

    private static void endKeepsTheFirstBytes() {
        HerringSea x = new HerringSea();
        CHECK.due("end(0) of no bytes", x.end(0), true);
        Tape.feed(x, "c=123&");
        CHECK.due("all bytes", x.end(6), true);
        CHECK.due("too early still", x.fault(), 6);
        CHECK.due("end(5)", x.end(5), true);
        CHECK.due("a text", x.fault(), -1);
        CHECK.due("bytes", x.count(11), 5);
        CHECK.due("end(1)", x.end(1), true);
        CHECK.due("more behind the first", Tape.feed(x, ">9"), 3);
        CHECK.due("what was cut is gone", x.fault(), -1);
        CHECK.due("end(0)", x.end(0), true);
        CHECK.due("none", x.count(11), 0);
        HerringSea y = new HerringSea();
        blanks(y, 200);
        CHECK.due("all of a full tape", y.end(200), true);
        CHECK.due("all but one", y.end(199), true);
        CHECK.due("bytes", y.count(11), 199);
    }

    private static void endIsFalseForWrongN() {
        for (int n : new int[] {-1, 4, 5, 200, 201, LEAST, MOST}) {
            new Twins(CHECK, "end").both(x -> Tape.feed(x, "c=12")).both(x -> x.end(3))
                .isFalse("end(" + n + ")", x -> x.end(n)).alike();
        }
        CHECK.due("end(1) of no bytes", new HerringSea().end(1), false);
        HerringSea y = new HerringSea();
        blanks(y, 200);
        CHECK.due("end(201) of a full tape", y.end(201), false);
    }

    private static void fault(String text, int want) {
        CHECK.due("fault of '" + text + "'", Tape.faultOf(new HerringSea(), text), want);
    }

    private static void faultOfNoBytesIs0() {
        fault("", 0);
        HerringSea x = new HerringSea();
        Tape.feed(x, "c=1");
        x.brand(0);
        CHECK.due("behind a brand", x.fault(), 0);
        Tape.feed(x, "c=1");
        x.end(0);
        CHECK.due("behind end(0)", x.fault(), 0);
    }

    private static void faultIsTheLengthIfTheyEndTooEarly() {
        String[] early = {
            "c", "c=", "c<", "c>", "(", "((", "((((((((", "(c", "(c=", "(c=1", "(c=12345", "(c=1&", "(c=1|", "((c=1)",
            "c=1&", "c=1|", "c=1&(", "(c=1)&", "(c=1)|", " ", "   ", "c ", "c= ", "( ", "(c=1 ", "c=1& ", "(c=1|c=2)& (",
        };
        for (String text : early) {
            fault(text, text.length());
        }
    }

    /** Behind a beginning of a text each byte from 1 to 255 is tried: those that may go on, and all others. */
    private static void goesOnWith(String begun, String may) {
        for (int next = 1; next <= 255; next++) {
            HerringSea x = new HerringSea();
            int got = Tape.faultOf(x, begun + (char) next);
            boolean goesOn = may.indexOf((char) next) >= 0;
            CHECK.holds("'" + begun + "' and byte " + next + " has the fault " + got, (got != begun.length()) == goesOn);
            Tape.feed(x, "~");
            int then = x.fault();
            CHECK.due("'" + begun + "' and byte " + next + ", then ~", then, begun.length() + (goesOn ? 1 : 0));
        }
    }

    private static void eachByteThatMayGoOn() {
        goesOnWith("", BEGIN);
        goesOnWith(" ", BEGIN);
        goesOnWith("(", BEGIN);
        goesOnWith("(((((((", BEGIN);
        goesOnWith("((((((((", " cswap");
        for (char letter : "cswap".toCharArray()) {
            goesOnWith("" + letter, SIGNS);
            goesOnWith(letter + " ", SIGNS);
        }
        for (char sign : "=<>".toCharArray()) {
            goesOnWith("c" + sign, " " + DIGITS);
            goesOnWith("c" + sign + " ", " " + DIGITS);
        }
        goesOnWith("c=1", " &|" + DIGITS);
        goesOnWith("c=1234", " &|" + DIGITS);
        goesOnWith("c=12345", " &|");
        goesOnWith("c=1 ", " &|");
        goesOnWith("(c=1", " &|)" + DIGITS);
        goesOnWith("(c=12345", " &|)");
        goesOnWith("(c=1 ", " &|)");
        goesOnWith("(c=1)", " &|");
        goesOnWith("((c=1)", " &|)");
        goesOnWith("((c=1) ", " &|)");
        goesOnWith("c=1&", BEGIN);
        goesOnWith("c=1|", BEGIN);
        goesOnWith("c=1& ", BEGIN);
        goesOnWith("c=1&c", SIGNS);
        goesOnWith("c=1|c=", " " + DIGITS);
    }

    private static void ninthBracket() {
        fault("((((((((c=1))))))))", -1);
        fault("(((((((((c=1)))))))))", 8);
        fault("(((((((((", 8);
        fault("c=1&(((((((((", 12);
        fault("c=1 | ( ( ( ( ( ( ( ( (", 22);
        fault("((((((((c=1)&(", 14);
        fault("((((((((c=1)&((", 14);
        fault("(((((((c=1&((", 12);
        fault("((((((((c=1))))))))&((((((((c=1))))))))", -1);
        fault("((((((((c=1)))))))|(c=1))&c=2|(((((((c=1)))))))", -1);
        fault("((((((((c=1)))))))&(((((((c=1", 29);
        fault("((((((((c=1)))))))&((((((((c=1", 26);
        fault("(c=1)|(c=2)|(c=3)|(c=4)|(c=5)|(c=6)|(c=7)|(c=8)|(c=9)|(c=10)", -1);
    }

    private static void sixthDigit() {
        for (String number : new String[] {"0", "00", "000", "0000", "00000", "99999"}) {
            fault("c=" + number, -1);
        }
        fault("c=000000", 7);
        fault("c=123456", 7);
        fault("c=12345 6", 8);
        fault("c=1&s=123456", 11);
        fault("c=12345&s=12345|w=12345", -1);
        fault("(c=12345)6", 9);
        fault("c=123456&", 7);
    }

    private static void blanksBetweenAll() {
        fault("c=1", -1);
        fault(" c = 1 ", -1);
        fault("   (   c   =   1   )   &   s   <   2   |   w   >   3   ", -1);
        fault("c=1 2", 4);
        fault("c=1 23", 4);
        fault("c = 1 = 2", 6);
        fault("c c=1", 2);
        fault("c < = 1", 4);
        fault("c\t=1", 1);
        fault("c\u00a0=1", 1);
        fault("\n", 0);
    }

    private static void faultAtTheTapesEnd() {
        fault(" ".repeat(200), 200);
        fault(" ".repeat(197) + "c=1", -1);
        fault(" ".repeat(198) + "c=", 200);
        fault(" ".repeat(196) + "c=1&", 200);
        fault(" ".repeat(196) + "c=1)", 199);
        fault("x" + " ".repeat(199), 0);
        fault("c=1" + " ".repeat(197), -1);
        fault("c=1&".repeat(49) + "s=12", -1);
        fault("c=1|".repeat(50), 200);
        HerringSea x = aSeason();
        CHECK.due("200 bytes are a brand's text", Tape.brand(x, 0, "c=0|".repeat(49) + "c= 9"), true);
        CHECK.due("its last byte is read", x.judge(0, 0), 1);
        CHECK.due("no digit behind it", Tape.brand(x, 0, "c=0|".repeat(49) + "c=99"), true);
        CHECK.due("its last byte is read", x.judge(0, 0), 0);
        CHECK.due("a short text in its place", Tape.brand(x, 0, "c=0"), true);
        CHECK.due("nothing of the long one", x.judge(0, 0), 0);
    }

    /** Lot 0: c 9, s 11, w 96, p 100, of night 0; lot 2: c 0, s 2, w 0, p 0, of night 1; now 2. */
    private static HerringSea aSeason() {
        HerringSea x = new HerringSea();
        x.yard(1, 500);
        x.bid(0, 100);
        x.soft(100);
        x.go(x.boat(10), 0);
        x.shoal(0, 20);
        x.night(false);
        x.bid(0, 0);
        x.soft(0);
        x.go(0, -1);
        x.go(x.boat(1), 0);
        x.go(x.boat(1), 0);
        x.shoal(0, 4);
        x.night(false);
        return x;
    }

    private static void brandsHaveNoTextAtFirst() {
        HerringSea x = aSeason();
        for (int brand = 0; brand < 4; brand++) {
            CHECK.due("judge(" + brand + ", 0) at first", x.judge(brand, 0), -1);
        }
        CHECK.due("branded(0) at first", x.branded(0), -1);
        Tape.feed(x, "c>0");
        CHECK.due("a tape is no brand's text", x.judge(0, 0), -1);
        CHECK.due("a tape is no brand's text", x.branded(0), -1);
    }

    private static void brandsAre0To3() {
        HerringSea x = aSeason();
        for (int brand = 0; brand < 4; brand++) {
            CHECK.due("brand(" + brand + ")", Tape.brand(x, brand, "c>" + brand), true);
            CHECK.due("judge(" + brand + ", 0)", x.judge(brand, 0), 1);
            CHECK.due("the next one has none", x.judge(brand + 1, 0), -1);
        }
        for (int brand : new int[] {-1, 4, 5, LEAST, MOST}) {
            new Twins(CHECK, "no such brand").both(y -> Tape.feed(y, "c=1"))
                .isFalse("brand(" + brand + ")", y -> y.brand(brand)).alike()
                .both(y -> CHECK.due("the tape may be a brand's still", y.brand(3), true)).alike();
        }
    }

    private static void brandOfAFault() {
        for (String text : new String[] {"", " ", "c=", "c=1)", "(c=1", "c=123456", "(((((((((c=1)))))))))"}) {
            HerringSea x = aSeason();
            Tape.brand(x, 1, "c=9");
            Tape.feed(x, text);
            CHECK.due("brand of '" + text + "'", x.brand(1), false);
            CHECK.due("brand of '" + text + "'", x.brand(0), false);
            CHECK.due("the tape stays", x.count(11), text.length());
            CHECK.due("the text stays", x.judge(1, 0), 1);
            CHECK.due("no text", x.judge(0, 0), -1);
        }
    }

    private static void brandEmptiesTheTape() {
        HerringSea x = aSeason();
        Tape.feed(x, "c=9 ");
        CHECK.due("brand(2)", x.brand(2), true);
        CHECK.due("bytes", x.count(11), 0);
        CHECK.due("no bytes are no text", x.brand(3), false);
        CHECK.due("the tape begins anew", Tape.feed(x, "c=8"), 3);
        CHECK.due("what comes to the tape changes no brand", x.judge(2, 0), 1);
    }

    private static void brandTakesAnotherText() {
        HerringSea x = aSeason();
        Tape.brand(x, 0, "c=9");
        Tape.brand(x, 1, "c=9");
        CHECK.due("another text", Tape.brand(x, 0, "c=8"), true);
        CHECK.due("its own", x.judge(0, 0), 0);
        CHECK.due("the other brand's", x.judge(1, 0), 1);
    }

    private static void judgeIsNoneForOthers() {
        HerringSea x = aSeason();
        Tape.brand(x, 0, "c<99999");
        CHECK.due("lots", x.count(3), 3);
        for (int lot : new int[] {-1, 3, 399, 400, LEAST, MOST}) {
            CHECK.due("judge(0, " + lot + ")", x.judge(0, lot), -1);
            CHECK.due("branded(" + lot + ")", x.branded(lot), -1);
        }
        for (int brand : new int[] {-1, 1, 2, 3, 4, LEAST, MOST}) {
            CHECK.due("judge(" + brand + ", 0)", x.judge(brand, 0), -1);
        }
        CHECK.due("the last lot", x.judge(0, 2), 1);
        HerringSea y = new HerringSea();
        Tape.brand(y, 0, "c=0");
        CHECK.due("no lots", y.judge(0, 0), -1);
        CHECK.due("no lots", y.branded(0), -1);
    }

    private static void judged(String form, int want) {
        HerringSea x = aSeason();
        String text = form.replace("1", "c=9").replace("0", "c=8");
        CHECK.due("brand " + text, Tape.brand(x, 0, text), true);
        CHECK.due("judge " + text, x.judge(0, 0), want);
    }

    /** & binds before |; a bracket is one unit; 1 stands for what holds and 0 for what does not. */
    private static void partsAndUnits() {
        judged("1|0&0", 1);
        judged("0&0|1", 1);
        judged("0&1|0", 0);
        judged("0|1&1", 1);
        judged("0|1&0", 0);
        judged("(1|0)&1", 1);
        judged("(1|0)&0", 0);
        judged("(0|0)&1", 0);
        judged("1&(0|1)", 1);
        judged("1&(1|0)", 1);
        judged("1&(0|0)", 0);
        judged("(1|0)&(0|1)", 1);
        judged("(0|1)&(1&0)", 0);
        judged("(1&0)|1", 1);
        judged("1|(0)", 1);
        judged("0|(0)", 0);
        judged("0&(1)", 0);
        judged("0&(1)|0", 0);
        judged("1|(0&((0)))", 1);
        judged("0&((1)|1)", 0);
        judged("(1|((0)))&1", 1);
        judged("(0&((1)))|0", 0);
        judged("1|0&(((1)))&0", 1);
        judged("(0)|(0)|(1)", 1);
        judged("(1)&(1)&(0)", 0);
        judged("((1|0)&(1|0))", 1);
        judged("((((((((1|0)&1)&1)&1)&1)&1)&1)&1)", 1);
        judged("((((((((1|0)&1)&1)&1)&1)&1)&1)&0)", 0);
        judged("((((((((0)|0)|0)|0)|0)|0)|0)|1)", 1);
        judged("0|(0|(0|(0|(0|(0|(0|(0|(1))))))))", 1);
        judged("1&(1&(1&(1&(1&(1&(1&(1&(0))))))))", 0);
    }

    private static void measures(HerringSea x, int lot, String letters, int... measures) {
        for (int i = 0; i < measures.length; i++) {
            for (int number = Math.max(0, measures[i] - 1); number <= measures[i] + 1; number++) {
                char letter = letters.charAt(i);
                holds(x, lot, letter + "=" + number, measures[i] == number);
                holds(x, lot, letter + "<" + number, measures[i] < number);
                holds(x, lot, letter + ">" + number, measures[i] > number);
            }
        }
    }

    private static void holds(HerringSea x, int lot, String text, boolean want) {
        Tape.brand(x, 0, text);
        CHECK.due(text + " of lot " + lot, x.judge(0, lot), want ? 1 : 0);
    }

    private static void measuresAtTheirEdges() {
        measures(aSeason(), 0, "cswap", 9, 11, 96, 2, 100);
        HerringSea x = aSeason();
        CHECK.due("a lot without cured ones", x.lot(2, 5), 0);
        measures(x, 2, "cswap", 0, 2, 0, 1, 0);
        holds(x, 0, "c<99999", true);
        holds(x, 0, "c>99999", false);
        holds(x, 0, "c=00009", true);
        holds(x, 0, "c=90000", false);
        holds(x, 2, "c=00000", true);
        holds(x, 2, "c<0", false);
        x.night(false);
        measures(x, 0, "a", 3);
    }

    private static void brandedIsTheLowest() {
        HerringSea x = aSeason();
        for (int brand = 3; brand >= 0; brand--) {
            Tape.brand(x, brand, "c=9");
            CHECK.due("the lowest that holds", x.branded(0), brand);
            CHECK.due("none holds", x.branded(2), -1);
        }
        for (int brand = 0; brand < 4; brand++) {
            Tape.brand(x, brand, "c=8");
            CHECK.due("the lowest that holds still", x.branded(0), brand == 3 ? -1 : brand + 1);
        }
    }
}
