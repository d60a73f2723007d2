import java.io.IOException;
import java.lang.reflect.Constructor;
import java.lang.reflect.Field;
import java.lang.reflect.Method;
import java.lang.reflect.Modifier;
import java.nio.charset.StandardCharsets;
import java.nio.file.Files;
import java.nio.file.Path;
import java.util.ArrayList;
import java.util.Arrays;
import java.util.HashSet;
import java.util.List;
import java.util.Set;
import java.util.TreeSet;
import java.util.regex.Pattern;

/** The public face with its constant, and the rules of LANGUAGE.md that can be seen from outside or word by word. */
public final class FaceTest {
    private static final String[] FACE = {
        "int spell(char) IllegalArgumentException IllegalStateException",
        "int clearSpelled()",
        "int runs()",
        "int runAt(int) IndexOutOfBoundsException",
        "int addTongue() IllegalStateException",
        "int tongues()",
        "int teach(int) IndexOutOfBoundsException IllegalStateException",
        "int withdraw(int) NoSuchElementException",
        "int tongueOf(int) NoSuchElementException",
        "int total(int) IndexOutOfBoundsException",
        "int count(int,int) IndexOutOfBoundsException",
        "int cost(int,int) IndexOutOfBoundsException",
        "int rank(int,int) IndexOutOfBoundsException",
        "int textCost(int) IndexOutOfBoundsException",
        "int distance(int) IndexOutOfBoundsException",
        "int setMargin(int) IllegalArgumentException",
        "int tell()",
        "int tellByRanks()",
        "int setPrice(int) IllegalArgumentException",
        "int cutCost() IllegalStateException",
        "int cutCostByTrying() IllegalStateException",
        "int cutTongue(int) IllegalStateException IndexOutOfBoundsException",
        "int stretches() IllegalStateException",
        "int learn(int) IllegalArgumentException IllegalStateException",
    };

    public static void main(String[] args) throws IOException {
        constant();
        classItself();
        methods();
        innerClasses();
        if (args.length > 0) {
            words(Files.readString(Path.of(args[0]), StandardCharsets.ISO_8859_1));
        }
        Check.end();
    }

    private static void constant() {
        Check.due("face: NONE", Tonguetell.NONE, -1);
        for (Field field : Tonguetell.class.getDeclaredFields()) {
            boolean isNone = field.getName().equals("NONE");
            int due = isNone ? Modifier.PUBLIC | Modifier.STATIC | Modifier.FINAL : Modifier.PRIVATE;
            int seen = Modifier.PUBLIC | Modifier.PROTECTED | Modifier.PRIVATE;
            Check.due("face: field " + field.getName(), field.getModifiers() & (isNone ? ~0 : seen), due);
            staticIsFinal(field);
        }
    }

    private static void staticIsFinal(Field field) {
        int modifiers = field.getModifiers();
        Check.holds("rule 5: " + field, !Modifier.isStatic(modifiers) || Modifier.isFinal(modifiers));
    }

    private static void classItself() {
        Class<?> face = Tonguetell.class;
        Check.due("face: the class", face.getModifiers(), Modifier.PUBLIC | Modifier.FINAL);
        Check.holds("face: no package", face.getPackageName().isEmpty());
        Check.holds("face: no super class", face.getSuperclass() == Object.class && face.getInterfaces().length == 0);
        Constructor<?>[] constructors = face.getDeclaredConstructors();
        Check.due("face: constructors", constructors.length, 1);
        Check.due("face: a public constructor", constructors[0].getModifiers(), Modifier.PUBLIC);
        Check.due("face: without parameters", constructors[0].getParameterCount(), 0);
        Check.due("face: that names no exceptions", constructors[0].getExceptionTypes().length, 0);
    }

    private static void methods() {
        Set<String> due = new TreeSet<>(Arrays.asList(FACE));
        Set<String> found = new TreeSet<>();
        Set<String> names = new HashSet<>();
        List<Method> others = new ArrayList<>();
        for (Method method : Tonguetell.class.getDeclaredMethods()) {
            if (Modifier.isPrivate(method.getModifiers())) {
                others.add(method);
            } else {
                Check.due("face: " + method.getName(), method.getModifiers(), Modifier.PUBLIC);
                found.add(told(method));
                names.add(method.getName());
            }
        }
        Check.holds("face: " + found + " is " + due, found.equals(due));
        for (Method method : others) {
            Check.holds("rule 1: private " + method.getName(), !names.contains(method.getName()));
            Check.holds("rule 11: " + method, method.getParameterCount() <= 7);
        }
    }

    private static String told(Method method) {
        StringBuilder told = new StringBuilder(method.getReturnType().getName());
        told.append(' ').append(method.getName()).append('(');
        for (int i = 0; i < method.getParameterCount(); i++) {
            told.append(i == 0 ? "" : ",").append(method.getParameterTypes()[i].getName());
        }
        told.append(')');
        for (Class<?> exception : method.getExceptionTypes()) {
            told.append(' ').append(exception.getSimpleName());
        }
        return told.toString();
    }

    private static void innerClasses() {
        Class<?>[] classes = Tonguetell.class.getDeclaredClasses();
        Check.holds("rule 11: some twelve classes", classes.length <= 12);
        for (Class<?> inner : classes) {
            int modifiers = inner.getModifiers();
            Check.holds("rule 1: " + inner, !Modifier.isPublic(modifiers) && !Modifier.isProtected(modifiers));
            Check.holds("rule 1: " + inner, Modifier.isStatic(modifiers));
            for (Field field : inner.getDeclaredFields()) {
                staticIsFinal(field);
            }
        }
    }

    private static void words(String source) {
        Check.holds("rule 3: signs 1 to 127", source.chars().allMatch(sign -> sign > 0 && sign < 128));
        String bare = source.replaceAll("(?s)/\\*.*?\\*/", "").replaceAll("//[^\n]*", "")
            .replaceAll("\"[^\"\n]*\"", "\"\"").replaceAll("'[^'\n]*'", "' '");
        for (String word : new String[] {"->", "::"}) {
            Check.holds("the words of LANGUAGE.md: " + word, !bare.contains(word));
        }
        for (String word : new String[] {"package", "catch", "try", "finally", "synchronized", "assert", "instanceof",
            "double", "float", "volatile", "transient", "native", "strictfp", "yield"}) {
            Check.holds("rules of LANGUAGE.md: " + word, !Pattern.compile("\\b" + word + "\\b").matcher(bare).find());
        }
        Check.holds("rule 5: no static block", !Pattern.compile("\\bstatic\\s*\\{").matcher(bare).find());
        Check.holds("rule 4: no other import", bare.replace("import java.util.NoSuchElementException;", "").indexOf("import") < 0);
        Check.holds("rule 4: of the library's static names only these",
            !Pattern.compile("\\b(Integer|Long|Character|String|System|Arrays|Objects|Math)\\s*\\.").matcher(
                bare.replaceAll("\\bMath\\.(abs|min|max)\\(", "")).find());
    }
}
