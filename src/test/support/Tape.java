/** Feeds texts to a HerringSea, four bytes a number, the highest first. */
final class Tape {
    private Tape() {
    }

    static int[] words(String text, int from) {
        int[] words = new int[5];
        for (int i = 0; i < 20 && from + i < text.length(); i++) {
            words[i / 4] |= (text.charAt(from + i) & 255) << (24 - 8 * (i % 4));
        }
        return words;
    }

    static int feed(HerringSea sea, String text) {
        int has = sea.count(11);
        for (int from = 0; from < text.length(); from += 20) {
            int[] w = words(text, from);
            has = sea.feed(w[0], w[1], w[2], w[3], w[4]);
        }
        return has;
    }

    static int faultOf(HerringSea sea, String text) {
        sea.end(0);
        feed(sea, text);
        return sea.fault();
    }

    static boolean brand(HerringSea sea, int brand, String text) {
        sea.end(0);
        feed(sea, text);
        return sea.brand(brand);
    }
}
