import java.lang.reflect.Field;
import java.lang.reflect.Method;
import java.lang.reflect.Modifier;
import java.nio.file.Files;
import java.nio.file.Path;
import java.util.ArrayList;
import java.util.List;
import java.util.regex.Matcher;
import java.util.regex.Pattern;

/** What of LANGUAGE.md can be seen in the source's words and in the compiled classes. */
public final class LanguageTest {
    private static final Check CHECK = new Check("LanguageTest");
    private static final String[] FORBIDDEN = {
        "\\b(throw|throws|try|catch|synchronized|assert|package|hashCode)\\b", "->", "::", "Exact\\b",
    };

    public static void main(String[] args) throws Exception {
        String source = Files.readString(Path.of("src/main/java/HerringSea.java"));
        String code = source.replaceAll("(?s)/\\*.*?\\*/", "").replaceAll("//[^\n]*", "");
        for (String word : FORBIDDEN) {
            Matcher found = Pattern.compile(word).matcher(code);
            CHECK.holds("the source has " + word, !found.find());
        }
        for (char c : source.toCharArray()) {
            CHECK.holds("a character above 127", c < 128);
        }
        List<Class<?>> classes = new ArrayList<>(List.of(HerringSea.class.getDeclaredClasses()));
        classes.add(HerringSea.class);
        for (Class<?> one : classes) {
            membersAreFew(one);
        }
        CHECK.end();
    }

    private static void membersAreFew(Class<?> one) {
        int fields = 0;
        for (Field field : one.getDeclaredFields()) {
            if (Modifier.isStatic(field.getModifiers())) {
                CHECK.holds("a static field that is no constant: " + field, Modifier.isFinal(field.getModifiers())
                    && field.getType() == int.class);
            } else {
                fields++;
            }
        }
        CHECK.holds("more than twenty fields: " + one, fields <= 20);
        for (Method method : one.getDeclaredMethods()) {
            CHECK.holds("more than seven parameters: " + method, method.getParameterCount() <= 7);
        }
    }
}
