/**
 * A herring fleet on a sea of cells: shoals, boats, gales, sales, yards, texts that judge lots,
 * and shares. Every call answers; what is refused is answered with NONE or false and changes nothing.
 */
public final class HerringSea {
    public static final int NONE = -1;

    private static final int SIDE = 6;
    private static final int CELLS = SIDE * SIDE;
    private static final int MOST_CRANS = 10000;
    private static final int MOST_WAY = 4;
    private static final int MOST_BOATS = 12;
    private static final int MOST_NETS = 60;
    private static final int CRANS_A_NET = 2;
    private static final int HANDS = 8;
    private static final int MOST_PARTS = 100;
    private static final int MOST_YARDS = 4;
    private static final int MOST_CREWS = 6;
    private static final int MOST_ROOM = 500;
    private static final int MOST_BID = 100;
    private static final int MOST_NIGHTS = 300;
    private static final int MOST_LOTS = 400;
    private static final int MOST_SOFT = 2000;
    private static final int FIRST_SOFT = 300;
    private static final int MINUTES_A_STEP = 30;
    private static final int MINUTES_A_CRAN = 12;
    private static final int BRANDS = 4;
    private static final int MOST_BYTES = 200;
    private static final int MOST_DEPTH = 8;
    private static final int MOST_DIGITS = 5;

    private final Sea sea;
    private final Boat[] boats;
    private final Yard[] yards;
    private final Lot[] lots;
    private final Text tape;
    private final Text[] brands;
    private final Parting parting;
    private final Grammar grammar;
    private final Verdict verdict;
    private int boatCount;
    private int yardCount;
    private int lotCount;
    private int now;
    private int softMinutes;
    private int takenInAll;
    private int curedInAll;
    private int spoiltInAll;
    private int thrownAway;

    public HerringSea() {
        sea = new Sea();
        boats = new Boat[MOST_BOATS];
        yards = new Yard[MOST_YARDS];
        lots = new Lot[MOST_LOTS];
        tape = new Text();
        brands = new Text[BRANDS];
        parting = new Parting();
        grammar = new Grammar();
        verdict = new Verdict();
        softMinutes = FIRST_SOFT;
    }

    public boolean shoal(int cell, int crans) {
        if (!Sea.isCell(cell) || !isWithin(crans, 0, MOST_CRANS)) {
            return false;
        }
        sea.crans[cell] = crans;
        return true;
    }

    public boolean open(int cell, boolean is) {
        if (!Sea.isCell(cell) || sea.isOpen[cell] == is) {
            return false;
        }
        sea.isOpen[cell] = is;
        return true;
    }

    public boolean drift(int way) {
        if (!isWithin(way, 0, MOST_WAY)) {
            return false;
        }
        sea.way = way;
        return true;
    }

    public int boat(int nets) {
        if (boatCount >= MOST_BOATS || !isWithin(nets, 0, MOST_NETS)) {
            return NONE;
        }
        boats[boatCount] = new Boat(nets);
        boatCount++;
        return boatCount - 1;
    }

    public boolean go(int boat, int cell) {
        Boat goer = boatAt(boat);
        if (goer == null || (cell != NONE && !Sea.isCell(cell))) {
            return false;
        }
        goer.cell = cell;
        return true;
    }

    public int mend(int boat, int nets) {
        Boat mended = boatAt(boat);
        if (mended == null || nets < 1 || nets > MOST_NETS - mended.nets) {
            return NONE;
        }
        mended.nets += nets;
        return mended.nets;
    }

    public int yard(int crews, int room) {
        if (yardCount >= MOST_YARDS || !isWithin(crews, 1, MOST_CREWS) || !isWithin(room, 1, MOST_ROOM)) {
            return NONE;
        }
        yards[yardCount] = new Yard(crews, room);
        yardCount++;
        return yardCount - 1;
    }

    public boolean bid(int yard, int coins) {
        Yard bidder = yardAt(yard);
        if (bidder == null || !isWithin(coins, 0, MOST_BID)) {
            return false;
        }
        bidder.bid = coins;
        return true;
    }

    public boolean soft(int minutes) {
        if (!isWithin(minutes, 0, MOST_SOFT)) {
            return false;
        }
        softMinutes = minutes;
        return true;
    }

    public int night(boolean gale) {
        if (now >= MOST_NIGHTS) {
            return NONE;
        }
        int firstLot = lotCount;
        beginNight(gale);
        int taken = haulEverywhere(gale);
        sea.moveShoals();
        sellAllCatches();
        gutLotsFrom(firstLot);
        now++;
        return taken;
    }

    public int feed(int a, int b, int c, int d, int e) {
        int more = Text.bytesIn(a) + Text.bytesIn(b) + Text.bytesIn(c) + Text.bytesIn(d) + Text.bytesIn(e);
        if (more > MOST_BYTES - tape.length) {
            return NONE;
        }
        tape.addWord(a);
        tape.addWord(b);
        tape.addWord(c);
        tape.addWord(d);
        tape.addWord(e);
        return tape.length;
    }

    public boolean end(int n) {
        if (!isWithin(n, 0, tape.length)) {
            return false;
        }
        tape.length = n;
        return true;
    }

    public int fault() {
        return grammar.faultOf(tape);
    }

    public boolean brand(int brand) {
        if (!isWithin(brand, 0, BRANDS - 1) || grammar.faultOf(tape) != NONE) {
            return false;
        }
        Text text = brands[brand];
        if (text == null) {
            text = new Text();
            brands[brand] = text;
        }
        text.copyFrom(tape);
        tape.length = 0;
        return true;
    }

    public int judge(int brand, int lot) {
        Text text = textAt(brand);
        Lot judged = lotAt(lot);
        if (text == null || judged == null) {
            return NONE;
        }
        return verdict.holds(text, judged, now) ? 1 : 0;
    }

    public int branded(int lot) {
        Lot judged = lotAt(lot);
        if (judged == null) {
            return NONE;
        }
        for (int brand = 0; brand < BRANDS; brand++) {
            Text text = textAt(brand);
            if (text != null && verdict.holds(text, judged, now)) {
                return brand;
            }
        }
        return NONE;
    }

    public boolean share(int boat, int hand, int parts) {
        Boat sharer = boatAt(boat);
        if (sharer == null || !Boat.isHand(hand) || !isWithin(parts, 0, MOST_PARTS)) {
            return false;
        }
        sharer.parts[hand] = parts;
        return true;
    }

    public int settle(int boat) {
        Boat settler = boatAt(boat);
        if (settler == null || settler.owed == 0) {
            return NONE;
        }
        parting.clear();
        for (int hand = 0; hand < HANDS; hand++) {
            parting.addMeasure(hand, settler.parts[hand]);
        }
        if (parting.sum == 0) {
            return NONE;
        }
        int settled = settler.owed;
        parting.part(settled);
        for (int hand = 0; hand < HANDS; hand++) {
            settler.got[hand] += parting.portions[hand];
        }
        settler.owed = 0;
        return settled;
    }

    public int coins(int boat, int hand) {
        Boat payer = boatAt(boat);
        if (payer == null || !Boat.isHand(hand)) {
            return 0;
        }
        return payer.got[hand];
    }

    public int cell(int cell, int what) {
        if (!Sea.isCell(cell)) {
            return NONE;
        }
        switch (what) {
            case 0: return sea.crans[cell];
            case 1: return sea.isOpen[cell] ? 1 : 0;
            default: return NONE;
        }
    }

    public int told(int boat, int what) {
        Boat asked = boatAt(boat);
        if (asked == null) {
            return NONE;
        }
        switch (what) {
            case 0: return asked.nets;
            case 1: return asked.cell;
            case 2: return asked.takenInAll;
            case 3: return asked.owed;
            case 4: return asked.netsLost;
            case 5: return asked.takenLately;
            default: return NONE;
        }
    }

    public int lot(int lot, int what) {
        Lot asked = lotAt(lot);
        if (asked == null) {
            return NONE;
        }
        switch (what) {
            case 0: return asked.night;
            case 1: return asked.boat;
            case 2: return asked.cell;
            case 3: return asked.yard;
            case 4: return asked.crans;
            case 5: return asked.cured;
            case 6: return asked.spoilt;
            case 7: return asked.minute;
            case 8: return asked.price;
            case 9: return asked.greatestWait;
            case 10: return asked.doneAt;
            default: return NONE;
        }
    }

    public int count(int what) {
        switch (what) {
            case 0: return now;
            case 1: return boatCount;
            case 2: return yardCount;
            case 3: return lotCount;
            case 4: return sea.cransInAll();
            case 5: return takenInAll;
            case 6: return curedInAll;
            case 7: return spoiltInAll;
            case 8: return sea.goneToSea;
            case 9: return thrownAway;
            case 10: return owedInAll();
            case 11: return tape.length;
            default: return NONE;
        }
    }

    private static boolean isWithin(int number, int least, int most) {
        return number >= least && number <= most;
    }

    private Boat boatAt(int number) {
        return isWithin(number, 0, MOST_BOATS - 1) ? boats[number] : null;
    }

    private Yard yardAt(int number) {
        return isWithin(number, 0, MOST_YARDS - 1) ? yards[number] : null;
    }

    private Lot lotAt(int number) {
        return isWithin(number, 0, MOST_LOTS - 1) ? lots[number] : null;
    }

    private Text textAt(int brand) {
        return isWithin(brand, 0, BRANDS - 1) ? brands[brand] : null;
    }

    private int owedInAll() {
        int owed = 0;
        for (int number = 0; number < boatCount; number++) {
            Boat boat = boatAt(number);
            if (boat != null) {
                owed += boat.owed;
            }
        }
        return owed;
    }

    private void beginNight(boolean gale) {
        for (int number = 0; number < boatCount; number++) {
            Boat boat = boatAt(number);
            if (boat != null) {
                boat.takenLately = 0;
                if (isStormy(boat.cell, gale)) {
                    boat.loseNets();
                }
            }
        }
        for (int number = 0; number < yardCount; number++) {
            Yard yard = yardAt(number);
            if (yard != null) {
                yard.beginDay();
            }
        }
    }

    private boolean isStormy(int cell, boolean gale) {
        return gale && Sea.isCell(cell) && sea.isOpen[cell];
    }

    private int haulEverywhere(boolean gale) {
        int taken = 0;
        for (int cell = 0; cell < CELLS; cell++) {
            if (!isStormy(cell, gale)) {
                taken += haulIn(cell);
            }
        }
        takenInAll += taken;
        return taken;
    }

    private int haulIn(int cell) {
        parting.clear();
        for (int number = 0; number < boatCount; number++) {
            Boat boat = boatAt(number);
            if (boat != null && boat.cell == cell) {
                parting.addMeasure(number, boat.nets);
            }
        }
        int taken = Math.min(CRANS_A_NET * parting.sum, sea.crans[cell]);
        if (taken == 0) {
            return 0;
        }
        parting.part(taken);
        for (int number = 0; number < boatCount; number++) {
            Boat boat = boatAt(number);
            if (boat != null) {
                boat.takeIn(parting.portions[number]);
            }
        }
        sea.crans[cell] -= taken;
        return taken;
    }

    private void sellAllCatches() {
        for (int steps = 0; steps <= Sea.MOST_STEPS; steps++) {
            for (int number = 0; number < boatCount; number++) {
                Boat boat = boatAt(number);
                if (boat != null && boat.takenLately > 0 && Sea.stepsFrom(boat.cell) == steps) {
                    sellCatch(number, boat, MINUTES_A_STEP * (steps + 1));
                }
            }
        }
    }

    private void sellCatch(int number, Boat boat, int minute) {
        int left = boat.takenLately;
        // A sale takes all that is left or fills its yard, so there is at most one with each yard.
        for (int sale = 0; sale < MOST_YARDS && left > 0; sale++) {
            int buyer = bestBidder();
            Yard yard = yardAt(buyer);
            if (yard == null || lotCount >= MOST_LOTS) {
                break;
            }
            int crans = Math.min(left, yard.roomLeft);
            lots[lotCount] = new Lot(now, number, boat.cell, buyer, crans, minute, yard.bid);
            lotCount++;
            yard.roomLeft -= crans;
            boat.owed += crans * yard.bid;
            left -= crans;
        }
        thrownAway += left;
    }

    private int bestBidder() {
        int best = NONE;
        int bestBid = NONE;
        for (int number = 0; number < yardCount; number++) {
            Yard yard = yardAt(number);
            if (yard != null && yard.roomLeft > 0 && yard.bid > bestBid) {
                best = number;
                bestBid = yard.bid;
            }
        }
        return best;
    }

    // Yards don't share crews: going through the lots as sold is each yard's own order too.
    private void gutLotsFrom(int firstLot) {
        for (int number = firstLot; number < lotCount; number++) {
            Lot lot = lotAt(number);
            if (lot != null) {
                gutLot(lot);
            }
        }
    }

    private void gutLot(Lot lot) {
        Yard yard = yardAt(lot.yard);
        if (yard == null) {
            return;
        }
        yard.gut(lot, softMinutes);
        curedInAll += lot.cured;
        spoiltInAll += lot.spoilt;
    }

    /** The cells and the shoals that move among them. */
    private static final class Sea {
        static final int MOST_STEPS = 2 * (SIDE - 1);

        final int[] crans = new int[CELLS];
        final boolean[] isOpen = new boolean[CELLS];
        private final int[] change = new int[CELLS];
        int way;
        int goneToSea;

        static boolean isCell(int cell) {
            return cell >= 0 && cell < CELLS;
        }

        static int stepsFrom(int cell) {
            return isCell(cell) ? cell % SIDE + cell / SIDE : NONE;
        }

        private static int nextCell(int cell, int way) {
            int x = cell % SIDE;
            int y = cell / SIDE;
            switch (way) {
                case 1: return x < SIDE - 1 ? cell + 1 : NONE;
                case 2: return x > 0 ? cell - 1 : NONE;
                case 3: return y < SIDE - 1 ? cell + SIDE : NONE;
                case 4: return y > 0 ? cell - SIDE : NONE;
                default: return NONE;
            }
        }

        // All quarters are told by what there is before any shoal moves, so the changes wait in a row.
        void moveShoals() {
            for (int cell = 0; cell < CELLS; cell++) {
                change[cell] = 0;
            }
            for (int cell = 0; cell < CELLS; cell++) {
                int next = nextCell(cell, way);
                if (isCell(next)) {
                    int quarter = crans[cell] / 4;
                    change[cell] -= quarter;
                    change[next] += quarter;
                }
            }
            for (int cell = 0; cell < CELLS; cell++) {
                int then = crans[cell] + change[cell];
                crans[cell] = Math.min(then, MOST_CRANS);
                goneToSea += then - crans[cell];
            }
        }

        int cransInAll() {
            int sum = 0;
            for (int cell = 0; cell < CELLS; cell++) {
                sum += crans[cell];
            }
            return sum;
        }
    }

    /** A boat with its catch, its money and its hands' shares. */
    private static final class Boat {
        final int[] parts = new int[HANDS];
        final int[] got = new int[HANDS];
        int nets;
        int cell = NONE;
        int takenInAll;
        int takenLately;
        int owed;
        int netsLost;

        Boat(int nets) {
            this.nets = nets;
        }

        static boolean isHand(int hand) {
            return hand >= 0 && hand < HANDS;
        }

        void loseNets() {
            int lost = nets / 5;
            nets -= lost;
            netsLost += lost;
        }

        void takeIn(int crans) {
            takenLately += crans;
            takenInAll += crans;
        }
    }

    /** A yard and, for the day that is worked, the minutes at which its crews are free. */
    private static final class Yard {
        private final int[] freeAt = new int[MOST_CREWS];
        private final int crews;
        private final int room;
        int bid;
        int roomLeft;

        Yard(int crews, int room) {
            this.crews = Math.min(crews, MOST_CREWS);
            this.room = room;
        }

        void beginDay() {
            roomLeft = room;
            for (int crew = 0; crew < MOST_CREWS; crew++) {
                freeAt[crew] = 0;
            }
        }

        void gut(Lot lot, int softMinutes) {
            for (int cran = 0; cran < lot.crans; cran++) {
                int crew = firstFreeCrew();
                int begun = Math.max(freeAt[crew], lot.minute);
                // No crew begins a soft cran, so none behind it in the lot could be begun earlier.
                if (begun - lot.minute > softMinutes) {
                    break;
                }
                freeAt[crew] = begun + MINUTES_A_CRAN;
                lot.cureOne(begun);
            }
            lot.spoilt = lot.crans - lot.cured;
        }

        private int firstFreeCrew() {
            int first = 0;
            for (int crew = 1; crew < crews; crew++) {
                if (freeAt[crew] < freeAt[first]) {
                    first = crew;
                }
            }
            return first;
        }
    }

    /** One sale, and what became of it. */
    private static final class Lot {
        final int night;
        final int boat;
        final int cell;
        final int yard;
        final int crans;
        final int minute;
        final int price;
        int cured;
        int spoilt;
        int greatestWait;
        int doneAt;

        Lot(int night, int boat, int cell, int yard, int crans, int minute, int price) {
            this.night = night;
            this.boat = boat;
            this.cell = cell;
            this.yard = yard;
            this.crans = crans;
            this.minute = minute;
            this.price = price;
        }

        void cureOne(int begun) {
            cured++;
            greatestWait = Math.max(greatestWait, begun - minute);
            doneAt = Math.max(doneAt, begun + MINUTES_A_CRAN);
        }

        int measure(int letter, int now) {
            switch (letter) {
                case 'c': return cured;
                case 's': return spoilt;
                case 'w': return greatestWait;
                case 'a': return now - night;
                case 'p': return price;
                default: return 0;
            }
        }
    }

    /** Parts a number among some by their measures; its rows serve all partings of an object. */
    private static final class Parting {
        final int[] portions = new int[MOST_BOATS];
        private final int[] measures = new int[MOST_BOATS];
        private final int[] rests = new int[MOST_BOATS];
        int sum;

        void clear() {
            sum = 0;
            for (int i = 0; i < MOST_BOATS; i++) {
                measures[i] = 0;
                portions[i] = 0;
            }
        }

        void addMeasure(int i, int measure) {
            if (i >= 0 && i < MOST_BOATS) {
                measures[i] = measure;
                sum += measure;
            }
        }

        void part(int number) {
            if (sum <= 0) {
                return;
            }
            int left = number;
            for (int i = 0; i < MOST_BOATS; i++) {
                long product = (long) number * measures[i];
                portions[i] = (int) (product / sum);
                rests[i] = (int) (product % sum);
                left -= portions[i];
            }
            // The rests add up to what is left times the sum, so nobody's turn comes twice.
            for (int given = 0; given < left && given < MOST_BOATS; given++) {
                int greatest = greatestRest();
                portions[greatest]++;
                rests[greatest] = 0;
            }
        }

        private int greatestRest() {
            int greatest = 0;
            for (int i = 1; i < MOST_BOATS; i++) {
                if (rests[i] > rests[greatest]) {
                    greatest = i;
                }
            }
            return greatest;
        }
    }

    /** Bytes: the tape's, or a brand's text. */
    private static final class Text {
        private final int[] bytes = new int[MOST_BYTES];
        int length;

        static int bytesIn(int word) {
            int found = 0;
            for (int shift = 24; shift >= 0; shift -= 8) {
                if ((word >>> shift & 255) != 0) {
                    found++;
                }
            }
            return found;
        }

        void addWord(int word) {
            for (int shift = 24; shift >= 0; shift -= 8) {
                int next = word >>> shift & 255;
                if (next != 0 && length < MOST_BYTES) {
                    bytes[length] = next;
                    length++;
                }
            }
        }

        int byteAt(int i) {
            return i >= 0 && i < MOST_BYTES ? bytes[i] : 0;
        }

        void copyFrom(Text other) {
            length = other.length;
            for (int i = 0; i < length && i < MOST_BYTES; i++) {
                bytes[i] = other.byteAt(i);
            }
        }
    }

    /** Goes through bytes one by one and knows which may come next in a TEXT. */
    private static final class Grammar {
        private static final int UNIT = 0;
        private static final int SIGN = 1;
        private static final int NUMBER = 2;
        private static final int UNIT_STANDS = 3;

        private int due;
        private int depth;
        private int digitsLeft;

        int faultOf(Text text) {
            due = UNIT;
            depth = 0;
            digitsLeft = 0;
            for (int i = 0; i < text.length; i++) {
                if (!takes(text.byteAt(i))) {
                    return i;
                }
            }
            return due == UNIT_STANDS && depth == 0 ? NONE : text.length;
        }

        private boolean takes(int next) {
            if (next == ' ') {
                // A blank ends a number; elsewhere no digits are left anyway.
                digitsLeft = 0;
                return true;
            }
            switch (due) {
                case UNIT: return takesUnit(next);
                case SIGN: return takesSign(next);
                case NUMBER: return takesFirstDigit(next);
                default: return takesBehindUnit(next);
            }
        }

        private boolean takesUnit(int next) {
            if (next == '(') {
                depth++;
                return depth <= MOST_DEPTH;
            }
            due = SIGN;
            return next == 'c' || next == 's' || next == 'w' || next == 'a' || next == 'p';
        }

        private boolean takesSign(int next) {
            due = NUMBER;
            return next == '=' || next == '<' || next == '>';
        }

        private boolean takesFirstDigit(int next) {
            due = UNIT_STANDS;
            digitsLeft = MOST_DIGITS - 1;
            return isDigit(next);
        }

        private boolean takesBehindUnit(int next) {
            if (isDigit(next)) {
                digitsLeft--;
                return digitsLeft >= 0;
            }
            digitsLeft = 0;
            if (next == ')') {
                depth--;
                return depth >= 0;
            }
            due = UNIT;
            return next == '&' || next == '|';
        }

        static boolean isDigit(int next) {
            return next >= '0' && next <= '9';
        }
    }

    /**
     * Whether a TEXT without a fault holds of a lot. Of each open bracket one bit says whether a part
     * of it held, another whether all units of its present part did; the innermost is the lowest bit.
     */
    private static final class Verdict {
        private int somePartHeld;
        private int allUnitsHold;
        private int letter;
        private int sign;
        private int number;

        boolean holds(Text text, Lot lot, int now) {
            somePartHeld = 0;
            allUnitsHold = 1;
            letter = 0;
            for (int i = 0; i < text.length; i++) {
                read(text.byteAt(i), lot, now);
            }
            endComparison(lot, now);
            endPart();
            return (somePartHeld & 1) == 1;
        }

        private void read(int next, Lot lot, int now) {
            if (Grammar.isDigit(next)) {
                number = number * 10 + (next - '0');
                return;
            }
            switch (next) {
                case ' ':
                    break;
                case '(':
                    somePartHeld = somePartHeld << 1;
                    allUnitsHold = allUnitsHold << 1 | 1;
                    break;
                case ')':
                    endComparison(lot, now);
                    endBracket();
                    break;
                case '&':
                    endComparison(lot, now);
                    break;
                case '|':
                    endComparison(lot, now);
                    endPart();
                    break;
                case '=':
                case '<':
                case '>':
                    sign = next;
                    number = 0;
                    break;
                default:
                    letter = next;
                    break;
            }
        }

        private void endComparison(Lot lot, int now) {
            // Behind a closed bracket there is no comparison to end.
            if (letter != 0) {
                addUnit(compares(lot.measure(letter, now)));
                letter = 0;
            }
        }

        private boolean compares(int measure) {
            switch (sign) {
                case '=': return measure == number;
                case '<': return measure < number;
                default: return measure > number;
            }
        }

        private void addUnit(boolean held) {
            if (!held) {
                allUnitsHold = allUnitsHold & ~1;
            }
        }

        private void endPart() {
            somePartHeld = somePartHeld | allUnitsHold & 1;
            allUnitsHold = allUnitsHold | 1;
        }

        private void endBracket() {
            endPart();
            boolean held = (somePartHeld & 1) == 1;
            somePartHeld = somePartHeld >>> 1;
            allUnitsHold = allUnitsHold >>> 1;
            addUnit(held);
        }
    }
}
