import java.util.function.ToIntFunction;

/** TEXTS by their definition: read by descent; a fault is found by trying to go on. */
final class TextModel {
    private static final String[] ENDS = {"", "1", "=1", "c=1"};
    private final String text;
    private final ToIntFunction<Character> measure;
    private int at;
    private boolean broken;

    private TextModel(String text, ToIntFunction<Character> measure) {
        this.text = text;
        this.measure = measure;
    }

    static boolean isText(String text) {
        TextModel reader = new TextModel(text, letter -> 0);
        reader.parts(0);
        return !reader.broken && reader.at == text.length();
    }

    static boolean holds(String text, ToIntFunction<Character> measure) {
        return new TextModel(text, measure).parts(0);
    }

    static int faultOf(String text) {
        if (isText(text)) {
            return -1;
        }
        for (int i = 0; i < text.length(); i++) {
            if (!canGoOn(text.substring(0, i + 1))) {
                return i;
            }
        }
        return text.length();
    }

    private static boolean canGoOn(String start) {
        for (String end : ENDS) {
            String tried = start + end;
            for (int closed = 0; closed <= 8; closed++) {
                if (isText(tried)) {
                    return true;
                }
                tried += ")";
            }
        }
        return false;
    }

    private boolean parts(int depth) {
        boolean held = units(depth);
        while (!broken && peek() == '|') {
            at++;
            held |= units(depth);
        }
        return held;
    }

    private boolean units(int depth) {
        boolean held = unit(depth);
        while (!broken && peek() == '&') {
            at++;
            held &= unit(depth);
        }
        return held;
    }

    private boolean unit(int depth) {
        char first = peek();
        if (first == '(') {
            if (depth == 8) {
                return fail();
            }
            at++;
            boolean held = parts(depth + 1);
            return broken || next() != ')' ? fail() : held;
        }
        if ("cswap".indexOf(first) < 0) {
            return fail();
        }
        at++;
        char sign = next();
        if ("=<>".indexOf(sign) < 0) {
            return fail();
        }
        peek();
        int from = at;
        while (at < text.length() && at - from < 5 && text.charAt(at) >= '0' && text.charAt(at) <= '9') {
            at++;
        }
        if (at == from) {
            return fail();
        }
        int number = Integer.parseInt(text.substring(from, at));
        peek();
        int value = measure.applyAsInt(first);
        return sign == '=' ? value == number : sign == '<' ? value < number : value > number;
    }

    private boolean fail() {
        broken = true;
        return false;
    }

    /** The next character that is no blank; 0 at the end. */
    private char peek() {
        while (at < text.length() && text.charAt(at) == ' ') {
            at++;
        }
        return at < text.length() ? text.charAt(at) : 0;
    }

    private char next() {
        char is = peek();
        if (at < text.length()) {
            at++;
        }
        peek();
        return is;
    }
}
