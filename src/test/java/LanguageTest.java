import java.io.IOException;
import java.lang.reflect.Constructor;
import java.lang.reflect.Field;
import java.lang.reflect.Method;
import java.lang.reflect.Modifier;
import java.nio.file.Files;
import java.nio.file.Path;
import java.util.HashSet;
import java.util.Set;
import java.util.regex.Matcher;
import java.util.regex.Pattern;

/** Those rules of ../shared/LANGUAGE.md that can be seen from the class and from its words. */
public final class LanguageTest {
    private static final int FACE_METHODS = 26;

    public static void main(String[] args) throws IOException {
        showsItsFaceAlone();
        hasPlainClassesInside();
        usesNoForbiddenWord();
        Due.end("LanguageTest");
    }

    private static void showsItsFaceAlone() {
        Due.yes("public and final", Modifier.isFinal(ShadowCourt.class.getModifiers()));
        Set<String> face = new HashSet<>();
        for (Method method : ShadowCourt.class.getDeclaredMethods()) {
            boolean isPublic = Modifier.isPublic(method.getModifiers());
            Due.yes(method + " is public or private", isPublic || Modifier.isPrivate(method.getModifiers()));
            if (isPublic) {
                face.add(method.getName());
            }
        }
        Due.is("methods of the face", face.size(), FACE_METHODS);
        for (Field field : ShadowCourt.class.getDeclaredFields()) {
            boolean isNone = field.getName().equals("NONE");
            Due.yes(field + " is NONE or private", isNone || Modifier.isPrivate(field.getModifiers()));
        }
        Due.is("constructors", ShadowCourt.class.getConstructors().length, 1);
        for (Class<?> inside : ShadowCourt.class.getDeclaredClasses()) {
            for (Method method : inside.getDeclaredMethods()) {
                Due.no(method + " bears a name of the face", face.contains(method.getName()));
            }
        }
        for (Method method : ShadowCourt.class.getDeclaredMethods()) {
            boolean isPrivate = Modifier.isPrivate(method.getModifiers());
            Due.no(method + " bears a name of the face", isPrivate && face.contains(method.getName()));
            Due.yes(method + " takes at most seven", method.getParameterCount() <= 7);
        }
    }

    private static void hasPlainClassesInside() {
        Class<?>[] all = ShadowCourt.class.getDeclaredClasses();
        Due.yes("at most twelve classes", all.length + 1 <= 12);
        for (Class<?> inside : all) {
            Due.yes(inside + " is static", Modifier.isStatic(inside.getModifiers()));
            Due.yes(inside + " is private", Modifier.isPrivate(inside.getModifiers()));
            int fields = 0;
            for (Field field : inside.getDeclaredFields()) {
                boolean isStatic = Modifier.isStatic(field.getModifiers());
                fields += isStatic ? 0 : 1;
                Due.no(field + " is static and not final", isStatic && !Modifier.isFinal(field.getModifiers()));
            }
            Due.yes(inside + " has at most twenty fields", fields <= 20);
            for (Constructor<?> constructor : inside.getDeclaredConstructors()) {
                Due.yes(constructor + " takes at most seven", constructor.getParameterCount() <= 7);
            }
        }
    }

    private static void usesNoForbiddenWord() throws IOException {
        String source = Files.readString(Path.of("src/main/java/ShadowCourt.java"));
        String bare = source.replaceAll("(?s)/\\*.*?\\*/", "").replaceAll("//[^\n]*", "").replaceAll("'[^']'", "0");
        Pattern forbidden = Pattern.compile("\\b(throws?|try|catch|finally|synchronized|assert|import|package|native"
            + "|volatile|transient|var|Object|Exception|random|nanoTime|toString|hashCode|equals)\\b|->|::|@|\"");
        Matcher found = forbidden.matcher(bare);
        while (found.find()) {
            Due.is("the word " + found.group() + " at " + found.start(), 1, 0);
        }
        for (int i = 0; i < source.length(); i++) {
            Due.yes("a sign of ASCII at " + i, source.charAt(i) < 128);
        }
    }
}
