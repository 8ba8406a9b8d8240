/** Promises 12 to 17: the tape, faults of texts, brands, judging. */
public final class TextTest {
    private static final Check CHECK = new Check("TextTest");

    public static void main(String[] args) {
        feeding();
        ending();
        faults();
        blanks();
        brackets();
        branding();
        judging();
        letters();
        brandedLots();
        CHECK.end();
    }

    private static void feeding() {
        HerringSea x = new HerringSea();
        CHECK.due("nothing", x.feed(0, 0, 0, 0, 0), 0);
        CHECK.due("highest first", x.feed(0x633d3100, 0, 0, 0, 0), 3);
        CHECK.due("it is c=1", x.fault(), -1);
        CHECK.due("bytes of 0 are left out", x.feed(0x00000026, 0x00630000, 0x003d0000, 0, 0x31), 7);
        CHECK.due("it is c=1&c=1", x.fault(), -1);
        x.end(0);
        for (int n = 1; n <= 9; n++) {
            CHECK.due("twenty more", x.feed(-1, -1, -1, -1, -1), 20 * n);
        }
        CHECK.due("nineteen more", x.feed(-1, -1, -1, -1, 0x7f010100), 199);
        CHECK.due("two too many", x.feed(0, 0, 0, 0, 0x00200020), -1);
        CHECK.due("nothing changed", x.count(11), 199);
        CHECK.due("200", x.feed(0, 0, 0x01000000, 0, 0), 200);
        CHECK.due("201", x.feed(0, 0, 0, 0, 1), -1);
        CHECK.due("nothing more", x.feed(0, 0, 0, 0, 0), 200);
        CHECK.due("high bytes are faults", x.fault(), 0);
    }

    private static void ending() {
        HerringSea x = new HerringSea();
        CHECK.due("end(0) of none", x.end(0), true);
        CHECK.due("end(1) of none", x.end(1), false);
        Tape.feed(x, "c=123");
        CHECK.due("end(6)", x.end(6), false);
        CHECK.due("end(-1)", x.end(-1), false);
        CHECK.due("end(5)", x.end(5), true);
        CHECK.due("count(11)", x.count(11), 5);
        CHECK.due("end(3)", x.end(3), true);
        CHECK.due("count(11)", x.count(11), 3);
        CHECK.due("c=1", x.fault(), -1);
        CHECK.due("end(2)", x.end(2), true);
        CHECK.due("c=", x.fault(), 2);
        CHECK.due("end(3) then", x.end(3), false);
    }

    private static void faults() {
        fault("", 0);
        fault("c=1", -1);
        fault("s<99999", -1);
        fault("w>00000", -1);
        fault("a=1|p=2&c=3", -1);
        fault("x=1", 0);
        fault("C=1", 0);
        fault("=1", 0);
        fault("1", 0);
        fault("&", 0);
        fault("|c=1", 0);
        fault("c", 1);
        fault("cc=1", 1);
        fault("c1", 1);
        fault("c(", 1);
        fault("c=", 2);
        fault("c==1", 2);
        fault("c<=1", 2);
        fault("c=c", 2);
        fault("c=-1", 2);
        fault("c=(1)", 2);
        fault("c=123456", 7);
        fault("c=12345x", 7);
        fault("c=1c", 3);
        fault("c=1(", 3);
        fault("c=1=", 3);
        fault("c=1&", 4);
        fault("c=1|", 4);
        fault("c=1&&c=1", 4);
        fault("c=1||c=1", 4);
        fault("c=1&|", 4);
        fault("c=1&)", 4);
        fault("c=1&c=123456", 11);
        fault("c=1|c=123456", 11);
        fault("c=/", 2);
        fault("c=:", 2);
        fault("c=1/", 3);
        fault("c=1:", 3);
        fault("c=\u00b1", 2);
        fault("\u00e3=1", 0);
        fault("c\t=1", 1);
    }

    private static void blanks() {
        fault(" ", 1);
        fault("     ", 5);
        fault("  c  =  1  ", -1);
        fault("c=1 & c = 2 | ( a < 3 ) ", -1);
        fault(" ( ( c=1 ) ) ", -1);
        fault("c=1 2", 4);
        fault("c=1  2", 5);
        fault("c = ", 4);
        fault("c ", 2);
        fault("c=12345 6", 8);
        fault("(c=1 )2", 6);
    }

    private static void brackets() {
        fault("(c=1)", -1);
        fault("((((((((c=1))))))))", -1);
        fault("(((((((((c=1)))))))))", 8);
        fault("( ( ( ( ( ( ( ( ( ", 16);
        fault("(((((((c=1&(s=1)))))))|(p=2)", 28);
        fault("(c=1)(", 5);
        fault("(c=1)c", 5);
        fault("(c=1)1", 5);
        fault("(c=12)3", 6);
        fault("()", 1);
        fault("(", 1);
        fault("(c=1", 4);
        fault("(c=1&", 5);
        fault("c=1)", 3);
        fault("(c=1))", 5);
        fault(")", 0);
        fault("(c=1)&(c=1)|(c=1)&(c=1)|(c=1)&(c=1)|(c=1)&(c=1)|(c=1)&(c=1)", -1);
    }

    private static void fault(String text, int want) {
        CHECK.due("fault of '" + text + "'", Tape.faultOf(new HerringSea(), text), want);
    }

    private static void branding() {
        HerringSea x = lots();
        CHECK.due("brand of nothing", x.brand(0), false);
        Tape.feed(x, "c=1");
        CHECK.due("brand(4)", x.brand(4), false);
        CHECK.due("brand(-1)", x.brand(-1), false);
        CHECK.due("count(11)", x.count(11), 3);
        CHECK.due("judge before", x.judge(3, 0), -1);
        CHECK.due("brand(3)", x.brand(3), true);
        CHECK.due("the tape is empty", x.count(11), 0);
        CHECK.due("judge then", x.judge(3, 0), 0);
        CHECK.due("brand of nothing", x.brand(3), false);
        Tape.feed(x, "c=1 c");
        CHECK.due("brand of a fault", x.brand(3), false);
        CHECK.due("the tape stays", x.count(11), 5);
        CHECK.due("the text stays", x.judge(3, 0), 0);
        CHECK.due("another text", Tape.brand(x, 3, "c>1"), true);
        CHECK.due("judge then", x.judge(3, 0), 1);
        Tape.feed(x, "c=9&c=8");
        CHECK.due("the tape is another", x.judge(3, 0), 1);
        CHECK.due("a shorter text", Tape.brand(x, 3, "c>1|c>1|c>1"), true);
        CHECK.due("a shorter text", Tape.brand(x, 3, "c=1"), true);
        CHECK.due("judge then", x.judge(3, 0), 0);
        StringBuilder whole = new StringBuilder("c>1");
        while (whole.length() < 200) {
            whole.insert(0, ' ');
        }
        CHECK.due("200 bytes", Tape.brand(x, 0, whole.toString()), true);
        CHECK.due("judge 200 bytes", x.judge(0, 0), 1);
    }

    /** Lot 0: c 9, s 11, w 96, p 7, of night 0; lot 1: c 3, s 0, w 24, p 7, of night 2; now 3. */
    private static HerringSea lots() {
        HerringSea x = new HerringSea();
        x.yard(1, 500);
        x.bid(0, 7);
        x.soft(100);
        x.boat(10);
        x.go(0, 0);
        x.shoal(0, 20);
        x.night(false);
        x.night(false);
        x.shoal(0, 3);
        x.night(false);
        return x;
    }

    private static void judging() {
        HerringSea x = lots();
        Tape.brand(x, 1, "c=9");
        CHECK.due("judge(1, 0)", x.judge(1, 0), 1);
        CHECK.due("judge(1, 1)", x.judge(1, 1), 0);
        CHECK.due("judge(0, 0)", x.judge(0, 0), -1);
        CHECK.due("judge(4, 0)", x.judge(4, 0), -1);
        CHECK.due("judge(-1, 0)", x.judge(-1, 0), -1);
        CHECK.due("judge(1, 2)", x.judge(1, 2), -1);
        CHECK.due("judge(1, -1)", x.judge(1, -1), -1);
        String yes = "c=9";
        String no = "c=8";
        judge(x, yes + "|" + no + "&" + no, 1);
        judge(x, no + "&" + no + "|" + yes, 1);
        judge(x, no + "&" + yes + "|" + no, 0);
        judge(x, yes + "&(" + no + "|" + yes + ")", 1);
        judge(x, "(" + yes + "|" + no + ")&" + no, 0);
        judge(x, yes + "&" + yes + "&" + no, 0);
        judge(x, no + "|" + no + "|" + yes, 1);
        judge(x, "(" + no + ")|(" + no + "|(" + yes + "))", 1);
        judge(x, no + "&(" + yes + ")|" + no, 0);
        judge(x, "(" + no + ")&" + yes, 0);
        judge(x, "(" + yes + ")&" + no, 0);
        judge(x, "((((((((" + no + "|" + yes + "))))))))", 1);
        judge(x, "((((((((" + no + "&" + yes + "))))))))", 0);
        judge(x, no + "&((((((((" + yes + "))))))))", 0);
        judge(x, no + "|((((((((" + yes + "))))))))", 1);
        judge(x, yes + "|((((((((" + no + "))))))))", 1);
        judge(x, "(" + yes + "|" + no + ")&" + yes + "&(" + no + ")", 0);
        judge(x, "(" + yes + ")|(" + no + "&" + no + ")", 1);
        judge(x, yes + "|(" + no + ")&" + no, 1);
        judge(x, no + "|(" + no + "|" + no + ")", 0);
    }

    private static void letters() {
        HerringSea x = lots();
        letter(x, 'c', 9);
        letter(x, 's', 11);
        letter(x, 'w', 96);
        letter(x, 'a', 3);
        letter(x, 'p', 7);
        x.bid(0, 50);
        x.night(true);
        letter(x, 'a', 4);
        letter(x, 'p', 7);
        judge(x, "c = 00009", 1);
        judge(x, "c < 99999", 1);
        judge(x, "c > 0", 1);
        judge(x, "c < 0", 0);
    }

    private static void letter(HerringSea x, char letter, int measure) {
        for (int number = measure - 1; number <= measure + 1; number++) {
            judge(x, letter + "=" + number, measure == number ? 1 : 0);
            judge(x, letter + "<" + number, measure < number ? 1 : 0);
            judge(x, letter + " > " + number, measure > number ? 1 : 0);
        }
    }

    private static void judge(HerringSea x, String text, int want) {
        CHECK.due("brand " + text, Tape.brand(x, 2, text), true);
        CHECK.due("judge " + text, x.judge(2, 0), want);
    }

    private static void brandedLots() {
        HerringSea x = lots();
        CHECK.due("no brand", x.branded(0), -1);
        Tape.brand(x, 3, "c>0");
        CHECK.due("only 3", x.branded(0), 3);
        Tape.brand(x, 1, "s>0");
        CHECK.due("1 and 3", x.branded(0), 1);
        CHECK.due("1 doesn't hold", x.branded(1), 3);
        Tape.brand(x, 0, "c=4");
        CHECK.due("0 doesn't hold", x.branded(0), 1);
        Tape.brand(x, 3, "c=4");
        CHECK.due("none holds", x.branded(1), -1);
        Tape.brand(x, 0, "a=3");
        CHECK.due("the lowest of all", x.branded(0), 0);
        CHECK.due("another lot's own night", x.branded(1), -1);
        Tape.brand(x, 0, "a = 1 & c = 3");
        CHECK.due("another lot's own night", x.branded(1), 0);
        CHECK.due("branded(2)", x.branded(2), -1);
        CHECK.due("branded(-1)", x.branded(-1), -1);
        CHECK.due("branded(400)", x.branded(400), -1);
    }
}
