import java.lang.reflect.Constructor;
import java.lang.reflect.Field;
import java.lang.reflect.Method;
import java.lang.reflect.Modifier;
import java.nio.file.Files;
import java.nio.file.Path;
import java.util.ArrayList;
import java.util.List;
import java.util.Set;
import java.util.TreeSet;
import java.util.regex.Matcher;
import java.util.regex.Pattern;

/** The face is that of the document, and what LANGUAGE.md rules out plainly is not in the file. */
public final class FaceTest {
    private static final Check CHECK = new Check("FaceTest");

    public static void main(String[] args) throws Exception {
        faceIsThatOfTheDocument();
        nothingElseIsSeen();
        nothingRuledOutIsWritten();
        CHECK.end();
    }

    private static void faceIsThatOfTheDocument() throws Exception {
        String document = Files.readString(Path.of("../shared/DOC.md"));
        String face = document.substring(document.indexOf("```java") + 7);
        face = face.substring(0, face.indexOf("```"));
        Set<String> due = new TreeSet<>();
        Matcher line = Pattern.compile("public (\\w+ )?(\\w+)\\((.*?)\\)(?: throws (.*?))?;").matcher(face);
        while (line.find()) {
            String types = line.group(3).isEmpty() ? "" : line.group(3).replaceAll("(\\w+) \\w+", "$1");
            String answer = line.group(1) == null ? "" : line.group(1);
            due.add(answer + line.group(2) + "(" + types + ")" + (line.group(4) == null ? "" : " " + line.group(4)));
        }
        CHECK.same("how many members the document's face has", due.size(), 59);
        Set<String> got = new TreeSet<>();
        for (Method method : Signkinds.class.getDeclaredMethods()) {
            if (Modifier.isPublic(method.getModifiers())) {
                got.add(method.getReturnType().getSimpleName() + " " + method.getName()
                        + signature(method.getParameterTypes(), method.getExceptionTypes()));
                CHECK.same(method.getName() + " is static", Modifier.isStatic(method.getModifiers()), false);
            }
        }
        for (Constructor<?> made : Signkinds.class.getDeclaredConstructors()) {
            got.add("Signkinds" + signature(made.getParameterTypes(), made.getExceptionTypes()));
        }
        CHECK.same("the face", got, due);
        int modifiers = Signkinds.class.getModifiers();
        CHECK.same("public and final", Modifier.isPublic(modifiers) && Modifier.isFinal(modifiers), true);
    }

    private static String signature(Class<?>[] types, Class<?>[] thrown) {
        String exceptions = names(thrown);
        return "(" + names(types) + ")" + (exceptions.isEmpty() ? "" : " " + exceptions);
    }

    private static String names(Class<?>[] types) {
        List<String> names = new ArrayList<>();
        for (Class<?> type : types) {
            names.add(type.getSimpleName());
        }
        return String.join(", ", names);
    }

    private static void nothingElseIsSeen() {
        Set<String> face = new TreeSet<>();
        for (Method method : Signkinds.class.getDeclaredMethods()) {
            if (Modifier.isPublic(method.getModifiers())) {
                face.add(method.getName());
            }
        }
        for (Method method : Signkinds.class.getDeclaredMethods()) {
            if (!Modifier.isPublic(method.getModifiers())) {
                CHECK.same(method + " is private", Modifier.isPrivate(method.getModifiers()), true);
                CHECK.same(method + " bears a public name", face.contains(method.getName()), false);
            }
        }
        for (Field field : Signkinds.class.getDeclaredFields()) {
            int modifiers = field.getModifiers();
            CHECK.same(field + " is private", Modifier.isPrivate(modifiers), true);
            if (Modifier.isStatic(modifiers)) {
                CHECK.same(field + " is final", Modifier.isFinal(modifiers), true);
            }
        }
        for (Class<?> inside : Signkinds.class.getDeclaredClasses()) {
            int modifiers = inside.getModifiers();
            CHECK.same(inside + " is static", Modifier.isStatic(modifiers), true);
            CHECK.same(inside + " is seen", Modifier.isPublic(modifiers) || Modifier.isProtected(modifiers), false);
            for (Method method : inside.getDeclaredMethods()) {
                CHECK.same(method + " bears a public name", face.contains(method.getName()), false);
            }
        }
    }

    private static void nothingRuledOutIsWritten() throws Exception {
        String text = Files.readString(Path.of("src/main/java/Signkinds.java"));
        String code = text.replaceAll("(?s)/\\*.*?\\*/", " ").replaceAll("//[^\n]*", " ");
        String[] ruledOut = {"\\bimport\\b", "\\bpackage\\b", "\\btry\\b", "\\bcatch\\b", "\\bfinally\\b", "->", "::",
            "\\bsynchronized\\b", "\\bassert\\b", "\\bSystem\\b", "\\bCharacter\\b", "\\bObject\\b", "Exact\\b",
            "\\bequals\\b", "\\bhashCode\\b", "\\bThread\\b", "\\bnative\\b", "\"\\s*\\+", "\\+\\s*\""};
        for (String pattern : ruledOut) {
            CHECK.same("the file holds " + pattern, Pattern.compile(pattern).matcher(code).find(), false);
        }
    }
}
