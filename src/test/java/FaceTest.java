import java.io.IOException;
import java.lang.reflect.Constructor;
import java.lang.reflect.Field;
import java.lang.reflect.Method;
import java.lang.reflect.Modifier;
import java.nio.charset.StandardCharsets;
import java.nio.file.Files;
import java.nio.file.Path;
import java.util.ArrayList;
import java.util.Arrays;
import java.util.HashSet;
import java.util.List;
import java.util.Set;
import java.util.TreeSet;
import java.util.regex.Matcher;
import java.util.regex.Pattern;

/** The public face with its constant, and the rules of LANGUAGE.md that can be seen from outside or word by word. */
public final class FaceTest {
    private static final String[] FACE = {
        "int spell(char) IllegalArgumentException IllegalStateException",
        "int clearSpelled()",
        "int runs()",
        "int runAt(int) IndexOutOfBoundsException",
        "int addTongue() IllegalStateException",
        "int tongues()",
        "int teach(int) IndexOutOfBoundsException IllegalStateException",
        "int withdraw(int) NoSuchElementException",
        "int tongueOf(int) NoSuchElementException",
        "int total(int) IndexOutOfBoundsException",
        "int count(int,int) IndexOutOfBoundsException",
        "int cost(int,int) IndexOutOfBoundsException",
        "int rank(int,int) IndexOutOfBoundsException",
        "int textCost(int) IndexOutOfBoundsException",
        "int distance(int) IndexOutOfBoundsException",
        "int setMargin(int) IllegalArgumentException",
        "int tell()",
        "int tellByRanks()",
        "int setPrice(int) IllegalArgumentException",
        "int cutCost() IllegalStateException",
        "int cutCostByTrying() IllegalStateException",
        "int cutTongue(int) IllegalStateException IndexOutOfBoundsException",
        "int stretches() IllegalStateException",
        "int learn(int) IllegalArgumentException IllegalStateException",
    };

    /** The calls ahead of which the document says that the interface has these words. */
    private static final String[][] HEADS = {
        {"---- the spelled text", "spell", "clearSpelled", "runs", "runAt"},
        {"---- tongues", "addTongue", "tongues", "teach", "withdraw", "tongueOf", "total", "count", "cost", "rank"},
        {"---- telling", "textCost", "distance", "setMargin", "tell", "tellByRanks"},
        {"---- cuts", "setPrice", "cutCost", "cutCostByTrying", "cutTongue", "stretches"},
        {"---- newcomers", "learn"},
    };

    private static final String EXCEPTIONS =
        "(IllegalStateException|IllegalArgumentException|IndexOutOfBoundsException|NoSuchElementException)";
    private static final int LONGEST_METHOD = 60;
    private static final int MOST_FIELDS = 20;

    public static void main(String[] args) throws IOException {
        String source = Files.readString(Path.of("src/main/java/Tonguetell.java"), StandardCharsets.ISO_8859_1);
        constant();
        classItself();
        methods();
        innerClasses();
        heads(source);
        Check.holds("rule 3: signs 1 to 127", source.chars().allMatch(sign -> sign > 0 && sign < 128));
        String bare = withoutCommentsAndTexts(source);
        words(bare);
        names(bare);
        throwing(bare);
        lengths(bare);
        Check.end();
    }

    private static void constant() {
        Check.due("face: NONE", Tonguetell.NONE, -1);
        for (Field field : Tonguetell.class.getDeclaredFields()) {
            boolean isNone = field.getName().equals("NONE");
            int due = isNone ? Modifier.PUBLIC | Modifier.STATIC | Modifier.FINAL : Modifier.PRIVATE;
            int seen = Modifier.PUBLIC | Modifier.PROTECTED | Modifier.PRIVATE;
            Check.due("face: field " + field.getName(), field.getModifiers() & (isNone ? ~0 : seen), due);
        }
    }

    private static void classItself() {
        Class<?> face = Tonguetell.class;
        Check.due("face: the class", face.getModifiers(), Modifier.PUBLIC | Modifier.FINAL);
        Check.holds("face: no package", face.getPackageName().isEmpty());
        Check.holds("face: no super class", face.getSuperclass() == Object.class && face.getInterfaces().length == 0);
        Constructor<?>[] constructors = face.getDeclaredConstructors();
        Check.due("face: constructors", constructors.length, 1);
        Check.due("face: a public constructor", constructors[0].getModifiers(), Modifier.PUBLIC);
        Check.due("face: without parameters", constructors[0].getParameterCount(), 0);
        Check.due("face: that names no exceptions", constructors[0].getExceptionTypes().length, 0);
    }

    private static void methods() {
        Set<String> due = new TreeSet<>(Arrays.asList(FACE));
        Set<String> found = new TreeSet<>();
        Set<String> names = new HashSet<>();
        List<Method> others = new ArrayList<>();
        for (Method method : Tonguetell.class.getDeclaredMethods()) {
            if (Modifier.isPrivate(method.getModifiers())) {
                others.add(method);
            } else {
                Check.due("face: " + method.getName(), method.getModifiers(), Modifier.PUBLIC);
                found.add(told(method));
                names.add(method.getName());
            }
        }
        Check.holds("face: " + found + " is " + due, found.equals(due));
        for (Method method : others) {
            Check.holds("rule 1: private " + method.getName(), !names.contains(method.getName()));
            Check.holds("rule 11: " + method, method.getParameterCount() <= 7);
        }
    }

    private static String told(Method method) {
        StringBuilder told = new StringBuilder(method.getReturnType().getName());
        told.append(' ').append(method.getName()).append('(');
        for (int i = 0; i < method.getParameterCount(); i++) {
            told.append(i == 0 ? "" : ",").append(method.getParameterTypes()[i].getName());
        }
        told.append(')');
        for (Class<?> exception : method.getExceptionTypes()) {
            told.append(' ').append(exception.getSimpleName());
        }
        return told.toString();
    }

    private static void innerClasses() {
        Class<?>[] classes = Tonguetell.class.getDeclaredClasses();
        Check.holds("rule 11: some twelve classes", classes.length <= 12);
        fields(Tonguetell.class);
        for (Class<?> inner : classes) {
            int modifiers = inner.getModifiers();
            Check.holds("rule 1: " + inner, !Modifier.isPublic(modifiers) && !Modifier.isProtected(modifiers));
            Check.holds("rule 1: " + inner, Modifier.isStatic(modifiers));
            fields(inner);
            for (Method method : inner.getDeclaredMethods()) {
                Check.holds("rule 11: " + method, method.getParameterCount() <= 7);
                Check.holds("rule 6: " + method, method.getExceptionTypes().length == 0);
            }
        }
    }

    private static void fields(Class<?> owner) {
        int own = 0;
        for (Field field : owner.getDeclaredFields()) {
            boolean isStatic = Modifier.isStatic(field.getModifiers());
            Check.holds("rule 5: " + field, !isStatic || Modifier.isFinal(field.getModifiers()));
            Check.holds("rule 3: " + field, isOfTheRules(field.getType()));
            own += isStatic ? 0 : 1;
        }
        Check.holds("rule 11: some twenty fields in " + owner, own <= MOST_FIELDS);
    }

    /** Numbers, the class's own classes, and arrays of them: of two dimensions those of numbers alone. */
    private static boolean isOfTheRules(Class<?> type) {
        if (!type.isArray()) {
            return type.isPrimitive() || type.getNestHost() == Tonguetell.class;
        }
        Class<?> inside = type.getComponentType();
        return inside.isArray() ? inside.getComponentType().isPrimitive() : isOfTheRules(inside);
    }

    private static void heads(String source) {
        int from = 0;
        for (String[] group : HEADS) {
            from = behind("    // " + group[0] + "\n\n    public int " + group[1] + "(", from, source);
            for (int call = 2; call < group.length; call++) {
                from = behind("\n    public int " + group[call] + "(", from, source);
            }
        }
    }

    private static int behind(String words, int from, String source) {
        int found = source.indexOf(words, from);
        Check.holds("the interface: " + words.strip() + " in the document's order", found >= 0);
        return found < 0 ? from : found + words.length();
    }

    private static String withoutCommentsAndTexts(String source) {
        return source.replaceAll("(?s)/\\*.*?\\*/", "").replaceAll("//[^\n]*", "")
            .replaceAll("\"[^\"\n]*\"", "\"\"").replaceAll("'[^'\n]*'", "' '");
    }

    private static boolean has(String bare, String pattern) {
        return Pattern.compile(pattern).matcher(bare).find();
    }

    // Some of these words LANGUAGE.md would take. Without a catch, nothing that the machine throws is caught.
    private static void words(String bare) {
        for (String word : new String[] {"->", "::"}) {
            Check.holds("rule 2: without " + word, !bare.contains(word));
        }
        for (String word : new String[] {"package", "catch", "try", "finally", "synchronized", "assert", "instanceof",
            "double", "float", "volatile", "transient", "native", "strictfp"}) {
            Check.holds("that the program does without " + word, !has(bare, "\\b" + word + "\\b"));
        }
        Check.holds("rule 5: no static block", !has(bare, "\\bstatic\\s*\\{"));
        Check.holds("rule 10: no text is joined by +", !has(bare, "\"\\s*\\+|\\+\\s*\""));
    }

    /** Every name that begins like a class's is the class itself, one inside it, an exception of the face, or Math. */
    private static void names(String bare) {
        Check.holds("rule 4: no other import",
            !has(bare.replace("import java.util.NoSuchElementException;", ""), "\\bimport\\b|\\bjava\\."));
        Set<String> due = new TreeSet<>(Arrays.asList("Tonguetell", "Math"));
        for (Class<?> inner : Tonguetell.class.getDeclaredClasses()) {
            due.add(inner.getSimpleName());
        }
        Matcher name = Pattern.compile("\\b[A-Z][A-Za-z0-9]*[a-z][A-Za-z0-9]*\\b").matcher(bare);
        while (name.find()) {
            Check.holds("rule 4: " + name.group(), due.contains(name.group()) || name.group().matches(EXCEPTIONS));
        }
        Check.holds("rule 4: of Math only these", !has(bare.replaceAll("\\bMath\\.(abs|min|max)\\(", ""), "\\bMath\\b"));
    }

    private static void throwing(String bare) {
        String proper = "\\bthrow new " + EXCEPTIONS + "\\(\"\"\\);";
        Check.holds("rule 6: nothing else is thrown", !has(bare.replaceAll(proper, ""), "\\bthrow\\b"));
        Matcher constructor = Pattern.compile("(?m)^( +)(public )?[A-Z]\\w*\\([^)]*\\) \\{\\n(?s:.*?)^\\1\\}").matcher(bare);
        int constructors = 0;
        while (constructor.find()) {
            constructors++;
            Check.holds("rule 6: no throw in a constructor", !constructor.group().contains("throw"));
        }
        Check.holds("that constructors were looked at", constructors > 0);
    }

    private static void lengths(String bare) {
        Matcher method = Pattern.compile("(?m)^( {4}| {8})(?!\\S*class)\\S.*\\) ?.*\\{\\n(?s:.*?)^\\1\\}").matcher(bare);
        int methods = 0;
        while (method.find()) {
            methods++;
            String text = method.group();
            String head = text.substring(0, text.indexOf('\n')).strip();
            Check.holds("rule 11: short: " + head, text.lines().count() <= LONGEST_METHOD);
        }
        Check.holds("that methods were looked at", methods >= FACE.length);
    }
}
