import java.lang.reflect.Constructor;
import java.lang.reflect.Field;
import java.lang.reflect.Method;
import java.lang.reflect.Modifier;
import java.nio.file.Files;
import java.nio.file.Path;
import java.util.Arrays;
import java.util.Set;
import java.util.TreeSet;
import java.util.regex.Pattern;

/** The public face, and words of Java that LANGUAGE.md rules out. */
public final class CutAtlasForm {
    private static final String[] FACE = {
        "int place()", "int line(int,int,int,int,int)", "int widen(int,int)", "int width(int,int)", "int merge(int,int)",
        "int undo()", "int told(int,int)", "int ask(int,int)", "int most(int,int)", "int flow(int,int,int)",
        "int cut(int,int,int)", "int count(int,int)", "int next(int,int,int)", "int size(int,int,int)",
        "int raise(int,int,int)", "int cheapest(int,int,int)", "int tree(int,int)", "int between(int,int)",
        "int least()", "int cuts()", "int cutAt(int)", "int weak(int)", "int part(int,int)", "int dense(int)",
        "int map(int,int,int)", "int row(int,int,int)", "int put(int,int,int,int,long)",
        "int copy(int,int,int,int,int,int)", "long item(int,int,int,int)", "int read(int)", "int about(int)",
        "long trace()", "int status()"
    };
    private static final String[] CONSTANTS = {
        "BAD = -1", "STATE = -2", "FULL = -3", "NONE = -9", "NULL = -11", "INDEX = -12", "CAST = -13", "SIZE = -15",
        "ENDLESS = -5"
    };
    private static final String[] RULED_OUT = {
        "throw", "throws", "try", "catch", "finally", "synchronized", "assert", "->", "::", "package", "hashCode",
        "toString", "volatile", "native", "@Override", "Exact\\("
    };
    private static int wrong = 0;

    public static void main(String[] args) throws Exception {
        lookAtMethods();
        lookAtFields();
        lookAtConstructors();
        lookAtSizes(CutAtlas.class);
        for (Class<?> inside : CutAtlas.class.getDeclaredClasses()) {
            lookAtSizes(inside);
        }
        lookAtWords();
        System.out.println(wrong == 0 ? "the form is as due" : wrong + " things are not as due");
        if (wrong != 0) {
            System.exit(1);
        }
    }

    private static void fault(String text) {
        wrong++;
        System.out.println(text);
    }

    private static void lookAtMethods() {
        Set<String> due = new TreeSet<>(Arrays.asList(FACE));
        Set<String> names = new TreeSet<>();
        for (String method : FACE) {
            names.add(method.substring(method.indexOf(' ') + 1, method.indexOf('(')));
        }
        for (Method method : CutAtlas.class.getDeclaredMethods()) {
            if (Modifier.isPrivate(method.getModifiers())) {
                if (names.contains(method.getName())) {
                    fault("a private method bears a public one's name: " + method);
                }
            } else if (!method.isSynthetic() && !due.remove(told(method))) {
                fault("not of the face: " + method);
            }
        }
        for (String method : due) {
            fault("missing: " + method);
        }
        for (Class<?> inside : CutAtlas.class.getDeclaredClasses()) {
            for (Method method : inside.getDeclaredMethods()) {
                if (names.contains(method.getName())) {
                    fault("a method inside bears a public one's name: " + method);
                }
            }
            if (!Modifier.isStatic(inside.getModifiers()) || Modifier.isPublic(inside.getModifiers())) {
                fault("a class inside is not static, or public: " + inside);
            }
        }
    }

    private static String told(Method method) {
        StringBuilder text = new StringBuilder();
        for (Class<?> type : method.getParameterTypes()) {
            text.append(text.length() == 0 ? "" : ",").append(type.getSimpleName());
        }
        return (Modifier.isPublic(method.getModifiers()) ? "" : "not public ") + method.getReturnType().getSimpleName()
                + " " + method.getName() + "(" + text + ")";
    }

    private static void lookAtFields() throws Exception {
        Set<String> due = new TreeSet<>(Arrays.asList(CONSTANTS));
        for (Field field : CutAtlas.class.getDeclaredFields()) {
            int modifiers = field.getModifiers();
            if (!Modifier.isPrivate(modifiers) && !due.remove(told(field))) {
                fault("not of the face: " + field);
            }
            if (Modifier.isStatic(modifiers) && !Modifier.isFinal(modifiers)) {
                fault("static and not final: " + field);
            }
        }
        for (String constant : due) {
            fault("missing: " + constant);
        }
    }

    private static String told(Field field) throws Exception {
        boolean isConstant = Modifier.isPublic(field.getModifiers()) && Modifier.isStatic(field.getModifiers());
        boolean isInt = field.getType() == int.class;
        return isConstant && isInt ? field.getName() + " = " + field.getInt(null) : "no constant: " + field;
    }

    private static void lookAtConstructors() {
        Constructor<?>[] all = CutAtlas.class.getDeclaredConstructors();
        if (all.length != 1 || all[0].getParameterCount() != 0 || !Modifier.isPublic(all[0].getModifiers())) {
            fault("the constructor is not the document's");
        }
        if (!Modifier.isFinal(CutAtlas.class.getModifiers())) {
            fault("the class is not final");
        }
        if (CutAtlas.class.getDeclaredClasses().length + 1 > 12) {
            fault("more than twelve classes");
        }
    }

    /** Rules 5 and 11. */
    private static void lookAtSizes(Class<?> type) {
        int fields = 0;
        for (Field field : type.getDeclaredFields()) {
            if (!Modifier.isStatic(field.getModifiers())) {
                fields++;
            } else if (!Modifier.isFinal(field.getModifiers())) {
                fault("static and not final: " + field);
            }
        }
        if (fields > 20) {
            fault(type + " has " + fields + " fields");
        }
        for (Method method : type.getDeclaredMethods()) {
            if (method.getParameterCount() > 7) {
                fault("more than seven parameters: " + method);
            }
        }
    }

    private static void lookAtWords() throws Exception {
        String source = Files.readString(Path.of("src/main/java/CutAtlas.java"));
        if (!source.replaceFirst("import java\\.util\\.Arrays;", "").equals(source.replaceAll("import [^\n]*;", ""))) {
            fault("the source imports what is not listed");
        }
        String code = source.replaceAll("(?s)/\\*.*?\\*/", "").replaceAll("//[^\n]*", "");
        for (String word : RULED_OUT) {
            boolean isWord = Character.isLetter(word.charAt(0)) && Character.isLetter(word.charAt(word.length() - 1));
            if (Pattern.compile(isWord ? "\\b" + word + "\\b" : word).matcher(code).find()) {
                fault("the source has: " + word);
            }
        }
    }
}
