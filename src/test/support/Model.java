import java.util.ArrayList;
import java.util.Comparator;
import java.util.List;
import java.util.PriorityQueue;

/** A second HerringSea that follows the document step by step, with the Java library and other means. */
final class Model {
    static final class BoatModel {
        int number, nets, cell = -1, taken, owed, lost, lately;
        int[] parts = new int[8];
        int[] got = new int[8];
    }

    static final class YardModel {
        int number, crews, room, bid, left;
        List<int[]> today = new ArrayList<>();
    }

    int[] crans = new int[36];
    boolean[] open = new boolean[36];
    int way, soft = 300, now, gone, thrown, taken, cured, spoilt;
    List<BoatModel> boats = new ArrayList<>();
    List<YardModel> yards = new ArrayList<>();
    List<int[]> lots = new ArrayList<>();
    String tape = "";
    String[] brands = new String[4];

    private static boolean in(int n, int least, int most) {
        return least <= n && n <= most;
    }

    int shoal(int c, int n) {
        if (!in(c, 0, 35) || !in(n, 0, 10000)) {
            return 0;
        }
        crans[c] = n;
        return 1;
    }

    int open(int c, boolean is) {
        if (!in(c, 0, 35) || open[c] == is) {
            return 0;
        }
        open[c] = is;
        return 1;
    }

    int drift(int w) {
        if (!in(w, 0, 4)) {
            return 0;
        }
        way = w;
        return 1;
    }

    int boat(int nets) {
        if (boats.size() == 12 || !in(nets, 0, 60)) {
            return -1;
        }
        BoatModel boat = new BoatModel();
        boat.number = boats.size();
        boat.nets = nets;
        boats.add(boat);
        return boat.number;
    }

    int go(int b, int c) {
        if (!in(b, 0, boats.size() - 1) || !in(c, -1, 35)) {
            return 0;
        }
        boats.get(b).cell = c;
        return 1;
    }

    int mend(int b, int nets) {
        if (!in(b, 0, boats.size() - 1) || nets < 1 || (long) boats.get(b).nets + nets > 60) {
            return -1;
        }
        return boats.get(b).nets += nets;
    }

    int yard(int crews, int room) {
        if (yards.size() == 4 || !in(crews, 1, 6) || !in(room, 1, 500)) {
            return -1;
        }
        YardModel yard = new YardModel();
        yard.number = yards.size();
        yard.crews = crews;
        yard.room = room;
        yards.add(yard);
        return yard.number;
    }

    int bid(int y, int coins) {
        if (!in(y, 0, yards.size() - 1) || !in(coins, 0, 100)) {
            return 0;
        }
        yards.get(y).bid = coins;
        return 1;
    }

    int soft(int minutes) {
        if (!in(minutes, 0, 2000)) {
            return 0;
        }
        soft = minutes;
        return 1;
    }

    static int[] part(int number, int[] measures) {
        int sum = 0;
        for (int m : measures) {
            sum += m;
        }
        int[] gets = new int[measures.length];
        int left = number;
        List<int[]> rests = new ArrayList<>();
        for (int i = 0; i < measures.length; i++) {
            gets[i] = Math.toIntExact(Math.multiplyExact((long) number, measures[i]) / sum);
            left -= gets[i];
            rests.add(new int[] {(int) ((long) number * measures[i] % sum), i});
        }
        rests.sort((a, b) -> a[0] != b[0] ? b[0] - a[0] : a[1] - b[1]);
        for (int i = 0; i < left; i++) {
            gets[rests.get(i)[1]]++;
        }
        return gets;
    }

    int night(boolean gale) {
        if (now == 300) {
            return -1;
        }
        int sum = haul(gale);
        move();
        sell();
        for (YardModel yard : yards) {
            gut(yard);
        }
        now++;
        taken += sum;
        return sum;
    }

    private int haul(boolean gale) {
        int sum = 0;
        boats.forEach(boat -> boat.lately = 0);
        for (int c = 0; c < 36; c++) {
            List<BoatModel> there = new ArrayList<>();
            int nets = 0;
            for (BoatModel boat : boats) {
                if (boat.cell == c && gale && open[c]) {
                    boat.lost += boat.nets / 5;
                    boat.nets -= boat.nets / 5;
                } else if (boat.cell == c && boat.nets > 0) {
                    there.add(boat);
                    nets += boat.nets;
                }
            }
            if (!there.isEmpty()) {
                int haul = Math.min(2 * nets, crans[c]);
                int[] gets = part(haul, there.stream().mapToInt(boat -> boat.nets).toArray());
                for (int i = 0; i < gets.length; i++) {
                    there.get(i).lately = gets[i];
                    there.get(i).taken += gets[i];
                }
                crans[c] -= haul;
                sum += haul;
            }
        }
        return sum;
    }

    private void move() {
        int dx = way == 1 ? 1 : way == 2 ? -1 : 0;
        int dy = way == 3 ? 1 : way == 4 ? -1 : 0;
        int[] then = new int[36];
        for (int y = 0; y < 6; y++) {
            for (int x = 0; x < 6; x++) {
                int c = 6 * y + x;
                boolean rim = !in(x + dx, 0, 5) || !in(y + dy, 0, 5);
                boolean from = in(x - dx, 0, 5) && in(y - dy, 0, 5);
                int goes = rim || way == 0 ? 0 : crans[c] / 4;
                int comes = from && way != 0 ? crans[6 * (y - dy) + x - dx] / 4 : 0;
                int all = crans[c] - goes + comes;
                if (all > 10000) {
                    gone += all - 10000;
                    all = 10000;
                }
                then[c] = all;
            }
        }
        crans = then;
    }

    private static int minute(BoatModel boat) {
        return 30 * (boat.cell % 6 + boat.cell / 6 + 1);
    }

    private void sell() {
        for (YardModel yard : yards) {
            yard.left = yard.room;
            yard.today.clear();
        }
        List<BoatModel> coming = new ArrayList<>(boats);
        coming.removeIf(boat -> boat.lately == 0);
        coming.sort(Comparator.comparingInt(Model::minute).thenComparingInt(boat -> boat.number));
        List<YardModel> wanting = new ArrayList<>(yards);
        wanting.sort((a, b) -> a.bid != b.bid ? b.bid - a.bid : a.number - b.number);
        for (BoatModel boat : coming) {
            int left = boat.lately;
            for (YardModel yard : wanting) {
                int sold = Math.min(left, yard.left);
                if (sold > 0 && lots.size() < 400) {
                    int[] lot = {now, boat.number, boat.cell, yard.number, sold, 0, 0, minute(boat), yard.bid, 0, 0};
                    lots.add(lot);
                    yard.today.add(lot);
                    yard.left -= sold;
                    boat.owed += sold * yard.bid;
                    left -= sold;
                }
            }
            thrown += left;
        }
    }

    private void gut(YardModel yard) {
        PriorityQueue<Integer> free = new PriorityQueue<>();
        for (int crew = 0; crew < yard.crews; crew++) {
            free.add(0);
        }
        for (int[] lot : yard.today) {
            for (int cran = 0; cran < lot[4]; cran++) {
                int begins = Math.max(free.peek(), lot[7]);
                if (begins - lot[7] > soft) {
                    lot[6]++;
                    spoilt++;
                    continue;
                }
                free.poll();
                free.add(begins + 12);
                lot[5]++;
                cured++;
                lot[9] = Math.max(lot[9], begins - lot[7]);
                lot[10] = begins + 12;
            }
        }
    }

    int feed(int... words) {
        StringBuilder more = new StringBuilder(tape);
        for (int word : words) {
            for (byte b : java.nio.ByteBuffer.allocate(4).putInt(word).array()) {
                if (b != 0) {
                    more.append((char) (b & 255));
                }
            }
        }
        if (more.length() > 200) {
            return -1;
        }
        tape = more.toString();
        return tape.length();
    }

    int end(int n) {
        if (!in(n, 0, tape.length())) {
            return 0;
        }
        tape = tape.substring(0, n);
        return 1;
    }

    int fault() {
        return TextModel.faultOf(tape);
    }

    int brand(int brand) {
        if (!in(brand, 0, 3) || fault() != -1) {
            return 0;
        }
        brands[brand] = tape;
        tape = "";
        return 1;
    }

    int judge(int brand, int lot) {
        if (!in(brand, 0, 3) || !in(lot, 0, lots.size() - 1) || brands[brand] == null) {
            return -1;
        }
        int[] of = lots.get(lot);
        return TextModel.holds(brands[brand], letter -> {
            switch (letter) {
                case 'c': return of[5];
                case 's': return of[6];
                case 'w': return of[9];
                case 'a': return now - of[0];
                default: return of[8];
            }
        }) ? 1 : 0;
    }

    int branded(int lot) {
        for (int brand = 0; brand < 4; brand++) {
            if (judge(brand, lot) == 1) {
                return brand;
            }
        }
        return -1;
    }

    int share(int b, int hand, int parts) {
        if (!in(b, 0, boats.size() - 1) || !in(hand, 0, 7) || !in(parts, 0, 100)) {
            return 0;
        }
        boats.get(b).parts[hand] = parts;
        return 1;
    }

    int settle(int b) {
        if (!in(b, 0, boats.size() - 1)) {
            return -1;
        }
        BoatModel boat = boats.get(b);
        int sum = 0;
        for (int parts : boat.parts) {
            sum += parts;
        }
        if (boat.owed == 0 || sum == 0) {
            return -1;
        }
        int[] gets = part(boat.owed, boat.parts);
        for (int hand = 0; hand < 8; hand++) {
            boat.got[hand] += gets[hand];
        }
        int settled = boat.owed;
        boat.owed = 0;
        return settled;
    }

    int coins(int b, int hand) {
        return in(b, 0, boats.size() - 1) && in(hand, 0, 7) ? boats.get(b).got[hand] : 0;
    }

    int cell(int c, int what) {
        return !in(c, 0, 35) || !in(what, 0, 1) ? -1 : what == 0 ? crans[c] : open[c] ? 1 : 0;
    }

    int told(int b, int what) {
        if (!in(b, 0, boats.size() - 1)) {
            return -1;
        }
        BoatModel boat = boats.get(b);
        return pick(what, boat.nets, boat.cell, boat.taken, boat.owed, boat.lost, boat.lately);
    }

    int lot(int lot, int what) {
        return in(lot, 0, lots.size() - 1) ? pick(what, lots.get(lot)) : -1;
    }

    int count(int what) {
        int sea = 0;
        for (int n : crans) {
            sea += n;
        }
        int owed = boats.stream().mapToInt(boat -> boat.owed).sum();
        return pick(what, now, boats.size(), yards.size(), lots.size(), sea, taken, cured, spoilt, gone, thrown,
            owed, tape.length());
    }

    private static int pick(int what, int... of) {
        return in(what, 0, of.length - 1) ? of[what] : -1;
    }
}
