import java.lang.reflect.Constructor;
import java.lang.reflect.Field;
import java.lang.reflect.Method;
import java.lang.reflect.Modifier;
import java.nio.file.Files;
import java.nio.file.Path;
import java.util.Set;
import java.util.TreeSet;
import java.util.regex.Matcher;
import java.util.regex.Pattern;

/** What of LANGUAGE.md can be seen from the class and from its text. */
public final class LanguageTest {
    /** Each method with what the document's face says that it throws: S for a state, A an argument, B bounds. */
    private static final String[] FACE = {
        "void game(int,int) A", "void pay(int,int,int,int,int) SA", "int run(int) SA", "int step(int,int) SBA",
        "void weight(int,int,int,int) SA", "int list() S", "int support(int,int) SA", "int strategy(int,int,int) SA",
        "int gets(int,int,int) SA", "int replies(int,int) SA", "boolean judge(int) S", "int index(int) S",
        "int round() S", "boolean isThere(int,int) SA", "long part(boolean,int) B", "int sign() ", "int told(int) A",
    };
    private static final String[] NEVER = {
        "->", "::", "\\bcatch\\b", "\\btry\\b", "\\bfinally\\b", "\\bsynchronized\\b", "\\bassert\\b", "Exact\\s*\\(",
        "\\bMath\\.random\\b", "\\bSystem\\.(?!arraycopy)", "\\bdouble\\b", "\\bfloat\\b", "\\bObject\\b", "\\bvar\\b",
        "\\bpackage\\b", "\\bprotected\\b", "\\bvolatile\\b", "\\btransient\\b", "\\bnative\\b",
    };

    public static void main(String[] args) throws Exception {
        face();
        inside();
        text(Files.readString(Path.of(args[0])));
        Check.finish();
    }

    private static void face() {
        Set<String> due = new TreeSet<>(Set.of(FACE));
        Set<String> publicOnes = new TreeSet<>();
        Set<String> names = new TreeSet<>();
        for (Method each : BestReplies.class.getDeclaredMethods()) {
            if (Modifier.isPublic(each.getModifiers())) {
                publicOnes.add(told(each));
                names.add(each.getName());
            }
        }
        Check.due("the face", publicOnes, due);
        for (Method each : BestReplies.class.getDeclaredMethods()) {
            boolean isPublic = Modifier.isPublic(each.getModifiers());
            Check.due(each + " is public or private", isPublic || Modifier.isPrivate(each.getModifiers()), true);
            Check.due(each + " has a name of its own", isPublic || !names.contains(each.getName()), true);
        }
        Constructor<?>[] constructors = BestReplies.class.getDeclaredConstructors();
        Check.due("constructors", constructors.length, 1);
        Check.due("a public constructor", Modifier.isPublic(constructors[0].getModifiers()), true);
        Check.due("a public final class", BestReplies.class.getModifiers(), Modifier.PUBLIC | Modifier.FINAL);
        fields(BestReplies.class, true);
    }

    private static String told(Method method) {
        StringBuilder made = new StringBuilder();
        made.append(method.getReturnType().getName()).append(' ').append(method.getName()).append('(');
        for (Class<?> each : method.getParameterTypes()) {
            made.append(made.charAt(made.length() - 1) == '(' ? "" : ",").append(each.getName());
        }
        made.append(") ");
        for (Class<?> each : method.getExceptionTypes()) {
            made.append(letter(each));
        }
        return made.toString();
    }

    private static String letter(Class<?> exception) {
        if (exception == IllegalStateException.class) {
            return "S";
        }
        if (exception == IllegalArgumentException.class) {
            return "A";
        }
        return exception == IndexOutOfBoundsException.class ? "B" : exception.getName();
    }

    private static void inside() {
        Class<?>[] classes = BestReplies.class.getDeclaredClasses();
        Check.due("some twelve classes", classes.length < 12, true);
        for (Class<?> each : classes) {
            Check.due(each + " is static", Modifier.isStatic(each.getModifiers()), true);
            Check.due(each + " is not public", Modifier.isPublic(each.getModifiers()), false);
            fields(each, false);
            for (Method method : each.getDeclaredMethods()) {
                Check.due(method + " has few parameters", method.getParameterCount() <= 7, true);
            }
        }
    }

    private static void fields(Class<?> of, boolean isFace) {
        int count = 0;
        for (Field each : of.getDeclaredFields()) {
            int kind = each.getModifiers();
            if (Modifier.isStatic(kind)) {
                Check.due(each + " is final", Modifier.isFinal(kind), true);
            } else {
                count++;
            }
            Check.due(each + " is not open", isFace && !Modifier.isPrivate(kind), false);
        }
        Check.due("some twenty fields in " + of, count <= 20, true);
    }

    private static void text(String whole) {
        String bare = whole.replaceAll("(?s)/\\*.*?\\*/", "").replaceAll("//[^\n]*", "");
        String text = bare.replaceAll("\"[^\"\n]*\"", "\"\"");
        for (String each : NEVER) {
            Check.due(each + " in the text", Pattern.compile(each).matcher(text).find(), false);
        }
        Matcher imports = Pattern.compile("import ([^;]*);").matcher(text);
        while (imports.find()) {
            Check.due("an import", imports.group(1), "java.util.Arrays");
        }
        Pattern others = Pattern.compile("throw (?!new (IllegalState|IllegalArgument|IndexOutOfBounds)Exception\\()");
        Check.due("a throw of anything else", others.matcher(text).find(), false);
        int lines = 0;
        for (String line : text.split("\n")) {
            lines = line.matches("( {4}){1,2}}") ? 0 : lines + 1;
            Check.due("a method is short: " + line, lines <= 60, true);
        }
    }
}
