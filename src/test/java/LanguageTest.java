import java.nio.file.Files;
import java.nio.file.Path;
import java.util.regex.Matcher;
import java.util.regex.Pattern;

/** The rules of LANGUAGE.md that can be seen in the text of GreyBoxes.java, and the document's face. */
public final class LanguageTest {
    private static final String[] FORBIDDEN = {
        "\\bthrow\\b", "\\btry\\b", "\\bcatch\\b", "\\bsynchronized\\b", "\\bassert\\b", "->", "::", "\\bpackage\\b",
        "\\bdouble\\b", "\\bfloat\\b", "\\bObject\\b", "\\bhashCode\\b", "\\btoString\\b", "Exact\\b", "\\bprotected\\b",
        "\\bgetClass\\b", "\\bThread\\b", "System\\.(?!arraycopy)", "\\bvar\\b", "\\bnative\\b", "\\bvolatile\\b",
        "import (?!java\\.util\\.Arrays;)", "\\bstatic\\s*\\{"
    };

    private LanguageTest() {
    }

    private static int depthOf(String text, int at) {
        int depth = 0;
        for (int i = 0; i < at; i++) {
            depth += text.charAt(i) == '{' ? 1 : text.charAt(i) == '}' ? -1 : 0;
        }
        return depth;
    }

    private static void methodsAreShort(String source) {
        int start = 0;
        String[] lines = source.split("\n");
        for (int i = 0; i < lines.length; i++) {
            if (lines[i].matches(" {4,8}[a-zA-Z].*\\) \\{")) {
                start = i;
            }
            if (lines[i].matches(" {4,8}\\}") && start > 0) {
                Check.due("lines of " + lines[start].trim(), i - start > 60, false);
                start = 0;
            }
        }
    }

    private static void fieldsAreFew(Class<?> c) {
        int fields = 0;
        for (java.lang.reflect.Field f : c.getDeclaredFields()) {
            int how = f.getModifiers();
            boolean constant = java.lang.reflect.Modifier.isStatic(how);
            fields += constant ? 0 : 1;
            Check.due(f + " is final if static", !constant || java.lang.reflect.Modifier.isFinal(how), true);
        }
        Check.due("some twenty fields of " + c.getName(), fields <= 20, true);
    }

    public static void main(String[] args) throws Exception {
        String source = Files.readString(Path.of("src/main/java/GreyBoxes.java"));
        String code = source.replaceAll("/\\*\\*.*?\\*/", "").replaceAll("//[^\n]*", "");
        for (String word : FORBIDDEN) {
            Matcher found = Pattern.compile(word).matcher(code);
            Check.due(word + " is not there", found.find(), false);
        }
        for (int i = 0; i < source.length(); i++) {
            Check.due("sign at " + i, source.charAt(i) < 127, true);
        }
        int publics = 0;
        Matcher found = Pattern.compile("\\bpublic\\b").matcher(code);
        while (found.find()) {
            publics++;
            Check.due("public is of the face", depthOf(code, found.start()) <= 1, true);
        }
        Check.due("class, constants, constructor, methods", publics, 1 + 2 + 1 + 32);
        Check.due("public methods", GreyBoxes.class.getDeclaredConstructors().length, 1);
        for (java.lang.reflect.Method m : GreyBoxes.class.getDeclaredMethods()) {
            boolean face = java.lang.reflect.Modifier.isPublic(m.getModifiers());
            Check.due(m.getName() + " is public or private", face || java.lang.reflect.Modifier.isPrivate(m.getModifiers()), true);
            Check.due(m.getName() + " takes few", m.getParameterCount() <= 7, true);
        }
        Check.due("some twelve classes", 1 + GreyBoxes.class.getDeclaredClasses().length <= 12, true);
        fieldsAreFew(GreyBoxes.class);
        for (Class<?> c : GreyBoxes.class.getDeclaredClasses()) {
            fieldsAreFew(c);
            for (java.lang.reflect.Method m : c.getDeclaredMethods()) {
                for (java.lang.reflect.Method p : GreyBoxes.class.getMethods()) {
                    boolean ours = p.getDeclaringClass() == GreyBoxes.class;
                    Check.due(m.getName() + " is no name of the face", ours && p.getName().equals(m.getName()), false);
                }
            }
        }
        methodsAreShort(source);
        Check.finish();
    }
}
