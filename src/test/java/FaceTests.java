import java.lang.reflect.Constructor;
import java.lang.reflect.Field;
import java.lang.reflect.Method;
import java.lang.reflect.Modifier;
import java.nio.file.Files;
import java.nio.file.Path;
import java.util.Set;
import java.util.TreeSet;
import java.util.regex.Pattern;

/** The public face is the document's, and the source keeps to what LANGUAGE.md says of words. */
public final class FaceTests {
    private static final String[] FACE = {
        "int on(int,int)", "int puts(int,int,int,int)", "int names(int,int,int)", "int voters(int,int)",
        "int draw(int,int,int)", "int follows(int,int,int)", "int undo()", "int of(int,int)", "int type(int)",
        "int clear()", "int does()", "int styles()", "int style(int,int)", "int without(int)", "int border()",
        "int beside(int,int)", "int unlike(int,int)", "int odd(int)", "int paper(int,int)", "int faces(int)",
        "int contest(int,int,int)", "int room(int,int)", "int rule(int)", "int leads(int,int)",
        "int lead(int,int,int)", "int fair(int,int,int)", "int place(int,int,int)", "int told(int)",
        "long digest()",
    };
    private static final String[] FORBIDDEN = {
        "throw", "throws", "try", "catch", "finally", "synchronized", "assert", "import", "package", "->", "::",
        "hashCode", "toString", "random", "Exact", "System\\.(?!arraycopy)", "static\\s*\\{", "protected",
    };
    private static int wrong = 0;

    private static void must(boolean holds, String what) {
        if (!holds) {
            wrong++;
            System.out.println(what);
        }
    }

    public static void main(String[] args) throws Exception {
        Class<?> face = StylePapers.class;
        must(Modifier.isPublic(face.getModifiers()) && Modifier.isFinal(face.getModifiers()), "not public and final");
        Set<String> names = methods(face);
        constructorsAndConstants(face);
        fields(face);
        for (Class<?> inside : face.getDeclaredClasses()) {
            must(Modifier.isStatic(inside.getModifiers()), inside + " is not static");
            fields(inside);
            for (Method method : inside.getDeclaredMethods()) {
                must(!names.contains(method.getName()), method + " bears the name of a public one");
                must(method.getParameterCount() <= 7, method + " has too many parameters");
            }
        }
        must(face.getDeclaredClasses().length <= 11, "too many classes");
        source(Path.of(System.getProperty("source", "src/main/java/StylePapers.java")));
        System.out.println(wrong == 0 ? "the face is as told" : wrong + " faults of the face");
        if (wrong != 0) {
            System.exit(1);
        }
    }

    private static Set<String> methods(Class<?> face) {
        Set<String> told = new TreeSet<>(Set.of(FACE));
        Set<String> names = new TreeSet<>();
        Set<String> found = new TreeSet<>();
        for (Method method : face.getDeclaredMethods()) {
            if (Modifier.isPublic(method.getModifiers())) {
                StringBuilder line = new StringBuilder(method.getReturnType() + " " + method.getName() + "(");
                for (Class<?> type : method.getParameterTypes()) {
                    line.append(line.charAt(line.length() - 1) == '(' ? "" : ",").append(type);
                }
                found.add(line.append(")").toString());
                names.add(method.getName());
            }
        }
        must(found.equals(told), "public methods are " + found);
        for (Method method : face.getDeclaredMethods()) {
            boolean isPublic = Modifier.isPublic(method.getModifiers());
            must(isPublic || Modifier.isPrivate(method.getModifiers()), method + " is neither public nor private");
            must(isPublic || !names.contains(method.getName()), method + " bears the name of a public one");
        }
        return names;
    }

    private static void constructorsAndConstants(Class<?> face) {
        Constructor<?>[] all = face.getDeclaredConstructors();
        must(all.length == 1 && all[0].getParameterCount() == 0 && Modifier.isPublic(all[0].getModifiers()),
            "the constructor is not as told");
        Set<String> constants = new TreeSet<>();
        for (Field field : face.getDeclaredFields()) {
            if (!Modifier.isPrivate(field.getModifiers())) {
                constants.add(Modifier.toString(field.getModifiers()) + " " + field.getType() + " " + field.getName());
            }
        }
        String kind = "public static final int ";
        must(constants.equals(Set.of(kind + "NONE", kind + "BAD", kind + "NO", kind + "FULL")),
            "constants are " + constants);
    }

    private static void fields(Class<?> owner) {
        int own = 0;
        for (Field field : owner.getDeclaredFields()) {
            if (Modifier.isStatic(field.getModifiers())) {
                must(Modifier.isFinal(field.getModifiers()), field + " is static and not final");
            } else {
                own++;
            }
        }
        must(own <= 20, owner + " has too many fields");
    }

    private static void source(Path path) throws Exception {
        String code = Files.readString(path).replaceAll("(?s)/\\*.*?\\*/", "").replaceAll("//[^\n]*", "");
        for (String word : FORBIDDEN) {
            boolean plain = Character.isLetter(word.charAt(0)) && word.chars().allMatch(Character::isLetter);
            Pattern pattern = Pattern.compile(plain && !word.equals("Exact") ? "\\b" + word + "\\b" : word);
            must(!pattern.matcher(code).find(), "the source has " + word);
        }
        must(Files.readString(path).chars().allMatch(c -> c < 128), "the source has signs beyond 127");
    }
}
