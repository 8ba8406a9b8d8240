import java.util.Random;

/**
 * Long runs of calls, each answered by the program and by the model; the seeds are fixed. No run has more
 * calls than an object is used for: each run asks of what came about some of all there is to ask.
 */
public final class ModelTest {
    private static final Check CHECK = new Check("ModelTest");
    private static final int MOST_CALLS = 512;
    private static final String[] PIECES = {
        "c", "s", "w", "a", "p", "=", "<", ">", "(", ")", "&", "|", " ", "0", "7", "12", "99999", "123456",
        "c=1", "s<5", "w > 20", "a<9", "p=3", "x", "\u00e9", "&", "|", "(", ")", "((((", "))))", "&(", ")|",
    };

    private final Random random;
    private final HerringSea sea = new HerringSea();
    private final Model model = new Model();
    private int calls;

    private ModelTest(long seed) {
        random = new Random(seed);
    }

    public static void main(String[] args) {
        for (int seed = 0; seed < 12000 && CHECK.isClean(); seed++) {
            new ModelTest(seed).mixedRun(seed);
        }
        for (int seed = 0; seed < 600 && CHECK.isClean(); seed++) {
            new ModelTest(1_000_000L + seed).season(seed);
        }
        for (int seed = 0; seed < 30000 && CHECK.isClean(); seed++) {
            new ModelTest(2_000_000L + seed).text(seed);
        }
        CHECK.end();
    }

    private void due(String call, int got, int want) {
        calls++;
        CHECK.due(call, got, want);
    }

    private static int is(boolean answer) {
        return answer ? 1 : 0;
    }

    /** A number within the bounds or, now and then, about their edges or anywhere. */
    private int number(int least, int most) {
        switch (random.nextInt(24)) {
            case 0: return least - 1;
            case 1: return most + 1;
            case 2: return least;
            case 3: return most;
            case 4: return random.nextInt(8) == 0 ? random.nextInt() : least;
            default: return least + random.nextInt(most - least + 1);
        }
    }

    private int boatNumber() {
        return number(0, Math.max(0, model.boats.size() - 1));
    }

    private int lotNumber() {
        return number(0, Math.max(0, model.lots.size() - 1));
    }

    private void mixedRun(int seed) {
        String at = "run " + seed + " ";
        int places = 1 + random.nextInt(36);
        int changing = 50 + random.nextInt(400);
        while (calls < changing && CHECK.isClean()) {
            String call = at + "call " + calls + " ";
            if (random.nextInt(3) == 0) {
                ask(call);
            } else {
                change(call, places);
            }
        }
        askWithTheRest(at);
    }

    private void change(String at, int places) {
        int a;
        int b;
        switch (random.nextInt(14)) {
            case 0: a = number(0, places - 1); b = number(0, random.nextBoolean() ? 10000 : 200);
                due(at + "shoal", is(sea.shoal(a, b)), model.shoal(a, b)); break;
            case 1: a = number(0, places - 1); boolean is = random.nextBoolean();
                due(at + "open", is(sea.open(a, is)), model.open(a, is)); break;
            case 2: a = number(0, 4); due(at + "drift", is(sea.drift(a)), model.drift(a)); break;
            case 3: a = number(0, 60); due(at + "boat", sea.boat(a), model.boat(a)); break;
            case 4: case 5: a = boatNumber(); b = number(-1, places - 1);
                due(at + "go", is(sea.go(a, b)), model.go(a, b)); break;
            case 6: a = boatNumber(); b = number(1, 20); due(at + "mend", sea.mend(a, b), model.mend(a, b)); break;
            case 7: a = number(1, 6); b = number(1, random.nextBoolean() ? 500 : 40);
                due(at + "yard", sea.yard(a, b), model.yard(a, b)); break;
            case 8: a = number(0, 3); b = number(0, random.nextBoolean() ? 100 : 2);
                due(at + "bid", is(sea.bid(a, b)), model.bid(a, b)); break;
            case 9: a = number(0, random.nextBoolean() ? 2000 : 100);
                due(at + "soft", is(sea.soft(a)), model.soft(a)); break;
            case 10: a = boatNumber(); b = number(0, 7); int parts = number(0, 100);
                due(at + "share", is(sea.share(a, b, parts)), model.share(a, b, parts)); break;
            case 11: a = boatNumber(); due(at + "settle", sea.settle(a), model.settle(a)); break;
            case 12: write(at); break;
            default: boolean gale = random.nextInt(3) == 0;
                due(at + "night", sea.night(gale), model.night(gale)); break;
        }
    }

    private void ask(String at) {
        int a;
        int b;
        switch (random.nextInt(8)) {
            case 0: a = boatNumber(); b = number(0, 7); due(at + "coins", sea.coins(a, b), model.coins(a, b)); break;
            case 1: a = number(0, 35); b = number(0, 1); due(at + "cell", sea.cell(a, b), model.cell(a, b)); break;
            case 2: a = boatNumber(); b = number(0, 5); due(at + "told", sea.told(a, b), model.told(a, b)); break;
            case 3: a = lotNumber(); b = number(0, 10); due(at + "lot", sea.lot(a, b), model.lot(a, b)); break;
            case 4: a = number(0, 11); due(at + "count", sea.count(a), model.count(a)); break;
            case 5: a = number(0, 3); b = lotNumber(); due(at + "judge", sea.judge(a, b), model.judge(a, b)); break;
            case 6: a = lotNumber(); due(at + "branded", sea.branded(a), model.branded(a)); break;
            default: due(at + "fault", sea.fault(), model.fault()); break;
        }
    }

    private void write(String at) {
        switch (random.nextInt(4)) {
            case 0: int n = random.nextInt(3) == 0 ? 0 : number(0, model.tape.length());
                due(at + "end", is(sea.end(n)), model.end(n)); break;
            case 1: int brand = number(0, 3); due(at + "brand", is(sea.brand(brand)), model.brand(brand)); break;
            default: feed(at, random.nextBoolean() ? goodText(2) : piecedText(1 + random.nextInt(12))); break;
        }
    }

    private void feed(String at, String text) {
        for (int from = 0; from < text.length(); from += 20) {
            int[] w = Tape.words(text, from);
            due(at + "feed " + text, sea.feed(w[0], w[1], w[2], w[3], w[4]), model.feed(w));
        }
    }

    private String piecedText(int pieces) {
        StringBuilder text = new StringBuilder();
        for (int n = 0; n < pieces; n++) {
            text.append(PIECES[random.nextInt(PIECES.length)]);
        }
        return text.toString();
    }

    private String goodText(int depth) {
        StringBuilder text = new StringBuilder();
        int units = 1 + random.nextInt(3);
        for (int n = 0; n < units; n++) {
            text.append(n == 0 ? "" : random.nextBoolean() ? "&" : "|");
            text.append(random.nextInt(6) == 0 ? " " : "");
            if (depth > 0 && random.nextInt(3) == 0) {
                text.append('(').append(goodText(depth - 1)).append(')');
            } else {
                text.append("cswap".charAt(random.nextInt(5))).append("=<>".charAt(random.nextInt(3)));
                text.append(random.nextInt(random.nextBoolean() ? 5 : 200));
            }
        }
        return text.toString();
    }

    /** Up to 300 nights and 400 lots with a whole fleet. */
    private void season(int seed) {
        String at = "season " + seed + " ";
        int fleet = 1 + random.nextInt(12);
        for (int n = 0; n < fleet; n++) {
            int nets = random.nextInt(61);
            due(at + "boat", sea.boat(nets), model.boat(nets));
            int cell = random.nextInt(36);
            due(at + "go", is(sea.go(n, cell)), model.go(n, cell));
            due(at + "share", is(sea.share(n, n % 8, n)), model.share(n, n % 8, n));
            due(at + "shoal", is(sea.shoal(cell, 10000)), model.shoal(cell, 10000));
        }
        int yards = 1 + random.nextInt(4);
        for (int n = 0; n < yards; n++) {
            int crews = 1 + random.nextInt(6);
            int room = 1 + random.nextInt(random.nextBoolean() ? 500 : 60);
            due(at + "yard", sea.yard(crews, room), model.yard(crews, room));
            int coins = random.nextInt(101);
            due(at + "bid", is(sea.bid(n, coins)), model.bid(n, coins));
        }
        for (int n = 0; n < 310 && CHECK.isClean(); n++) {
            if (n % 10 == 0) {
                change(at + n, 36);
            }
            due(at + "night", sea.night(n % 7 == 0), model.night(n % 7 == 0));
            if (calls > MOST_CALLS - 40) {
                break;
            }
        }
        askWithTheRest(at);
    }

    private void text(int seed) {
        String text = random.nextBoolean() ? piecedText(1 + random.nextInt(20)) : goodText(3);
        if (random.nextInt(4) == 0 && !text.isEmpty()) {
            int at = random.nextInt(text.length());
            text = text.substring(0, at) + PIECES[random.nextInt(PIECES.length)] + text.substring(at);
        }
        if (text.length() <= 200) {
            feed("text " + seed, text);
            due("fault of '" + text + "'", sea.fault(), model.fault());
        }
    }

    private void askWithTheRest(String at) {
        while (calls < MOST_CALLS && CHECK.isClean()) {
            ask(at + "call " + calls + " ");
        }
        CHECK.holds(at + "has more than " + MOST_CALLS + " calls", calls <= MOST_CALLS);
    }
}
