import java.io.DataInputStream;
import java.io.IOException;
import java.io.InputStream;
import java.lang.reflect.Constructor;
import java.lang.reflect.Field;
import java.lang.reflect.Method;
import java.lang.reflect.Modifier;
import java.nio.file.Files;
import java.nio.file.Path;
import java.util.List;
import java.util.Set;
import java.util.TreeSet;
import java.util.regex.Matcher;
import java.util.regex.Pattern;

/** The class's face is the document's and no more; what of LANGUAGE.md can be seen from outside holds. */
public final class FaceTest {
    private static final String[] FACE = {"int world(int)", "int place(int,int)", "int trade(int,int)", "int choose(int,int)",
        "int line(int)", "int dayOf(int,int)", "int hourOf(int,int)", "int traveller(int,int,int)", "int leg(int,int,boolean,int,int)",
        "int captain(int,int,int)", "long where(int,int,int)", "int in(int,int)", "int day(int,int)", "int dayBy(int,int,int)",
        "int gain(int,int,int)", "int begins(int,int)", "int longDay(int,int)", "int often(int,int,int)", "int duty(int,int,int)",
        "int differ(int,int,int)", "int agree(int,int,int)", "int part(int,int,int,int)", "int wrong(int,int)", "int bestLine(int,int)",
        "int moved(int,int)", "int judge(int,int,int,int)", "int kept(int,int,int)", "int rounds(int,int)", "int log(int,int)",
        "int plan(int,int,int)", "int image()", "int restore()", "int count(int)", "int keep(int,int,int)", "int row(int,int,int)",
        "int put(int,int,int)", "long element(int,int)", "int copy(int,int,int,int,int)", "int weight(int)", "int toss(int)"};
    private static final String[] OUTSIDE_THE_LANGUAGE = {"->", "::", "\\bsynchronized\\b", "\\bassert\\b", "\\bfinally\\b", "\\bimport\\b",
        "\\bpackage\\b", "\\bgetMessage\\b", "\\bRuntimeException\\b", "\\bIndexOutOfBounds", "\\bNullPointer", "\\bThrowable\\b",
        "\\bException\\b", "\\bArithmeticException\\b", "\\bClassCast", "Exact\\(", "\\bdouble\\b", "\\bfloat\\b", "\\bnative\\b",
        "\\bprotected\\b", "\\bthis\\b"};
    /** Of what LANGUAGE.md's rule 4 and 6 leave, that which the class has a use for. */
    private static final String LIBRARY = "java/lang/Object\\.<init>|java/lang/Math\\.(floorDiv|floorMod|min|max|abs)"
        + "|java/lang/System\\.arraycopy|java/lang/(IllegalState|IllegalArgument|UnsupportedOperation)Exception\\.<init>";

    private static int wrong = 0;

    public static void main(String[] args) throws Exception {
        members();
        insides();
        source();
        library();
        System.out.println(wrong == 0 ? "the face is the document's" : wrong + " faults of the face");
        if (wrong != 0) System.exit(1);
    }

    private static void must(boolean is, String what) {
        if (!is) {
            wrong++;
            System.out.println(what);
        }
    }

    private static String told(Method m) {
        StringBuilder s = new StringBuilder(m.getReturnType().getName()).append(' ').append(m.getName()).append('(');
        for (int i = 0; i < m.getParameterCount(); i++) s.append(i == 0 ? "" : ",").append(m.getParameterTypes()[i].getName());
        return s.append(')').toString();
    }

    private static void members() throws Exception {
        Class<?> c = WhichDay.class;
        must(Modifier.isPublic(c.getModifiers()) && Modifier.isFinal(c.getModifiers()), "the class is not public and final");
        Set<String> names = new TreeSet<>();
        Set<String> face = new TreeSet<>();
        for (Method m : c.getDeclaredMethods()) {
            if (Modifier.isPublic(m.getModifiers())) {
                face.add(told(m));
                names.add(m.getName());
            } else {
                must(Modifier.isPrivate(m.getModifiers()), "neither public nor private: " + m);
            }
        }
        must(face.equals(new TreeSet<>(List.of(FACE))), "the face: " + face);
        for (Method m : c.getDeclaredMethods()) {
            must(Modifier.isPublic(m.getModifiers()) || !names.contains(m.getName()), "a private method with a public name: " + m);
            must(m.getParameterCount() <= 7, "too many parameters: " + m);
        }
        for (Field f : c.getDeclaredFields()) must(Modifier.isPrivate(f.getModifiers()), "not private: " + f);
        for (Constructor<?> k : c.getDeclaredConstructors()) must(Modifier.isPublic(k.getModifiers()) && k.getParameterCount() == 0, "" + k);
        Class<?>[] thrown = c.getMethod("element", int.class, int.class).getExceptionTypes();
        must(List.of(thrown).equals(List.of(IllegalArgumentException.class, IllegalStateException.class)), "what element() throws");
    }

    private static void insides() {
        Class<?>[] inside = WhichDay.class.getDeclaredClasses();
        must(inside.length < 12, "too many classes");
        for (Class<?> c : inside) {
            must(Modifier.isStatic(c.getModifiers()) && !Modifier.isPublic(c.getModifiers()), "not static or public: " + c);
            for (Method m : c.getDeclaredMethods()) must(m.getParameterCount() <= 7, "too many parameters: " + m);
            long fields = List.of(c.getDeclaredFields()).stream().filter(f -> !Modifier.isStatic(f.getModifiers())).count();
            must(fields <= 20, "too many fields: " + c);
        }
    }

    private static void source() throws Exception {
        String text = Files.readString(Path.of("src/main/java/WhichDay.java"));
        String code = text.replaceAll("(?s)/\\*.*?\\*/", "").replaceAll("//[^\n]*", "").replaceAll("\"[^\"]*\"", "\"\"");
        for (String no : OUTSIDE_THE_LANGUAGE) {
            Matcher m = Pattern.compile(no).matcher(code);
            must(!m.find(), "outside the language: " + no);
        }
        must(text.chars().allMatch(c -> c < 128), "a sign above 127");
        int begun = 0;
        String[] lines = text.split("\n");
        for (int i = 0; i < lines.length; i++) {
            if (lines[i].matches(" {4,8}[A-Za-z].*\\) (throws .*)?\\{")) begun = i;
            must(i - begun < 60 || !lines[i].matches(" {4,8}\\}"), "a method of over sixty lines ends at line " + (i + 1));
        }
    }

    private static void library() throws IOException {
        library(WhichDay.class);
        for (Class<?> c : WhichDay.class.getDeclaredClasses()) library(c);
    }

    /** Looks through the numbered constants of a compiled class, in which each method that it calls stands. */
    private static void library(Class<?> c) throws IOException {
        String file = c.getName() + ".class";
        try (InputStream bytes = c.getResourceAsStream(file); DataInputStream in = new DataInputStream(bytes)) {
            in.skipBytes(8);
            int size = in.readUnsignedShort();
            String[] texts = new String[size];
            int[][] pairs = new int[size][];
            int[] sorts = new int[size];
            for (int i = 1; i < size; i++) {
                sorts[i] = in.readUnsignedByte();
                switch (sorts[i]) {
                    case 1 -> texts[i] = in.readUTF();
                    case 7, 8, 16, 19, 20 -> pairs[i] = new int[] {in.readUnsignedShort()};
                    case 15 -> in.skipBytes(3);
                    case 5, 6 -> {
                        in.skipBytes(8);
                        i++;
                    }
                    default -> pairs[i] = new int[] {in.readUnsignedShort(), in.readUnsignedShort()};
                }
            }
            for (int i = 1; i < size; i++) {
                must(sorts[i] != 17 && sorts[i] != 18, "a lambda, a method reference or texts joined by + in " + file);
                if (sorts[i] != 10 && sorts[i] != 11) continue;
                String called = texts[pairs[pairs[i][0]][0]] + "." + texts[pairs[pairs[i][1]][0]];
                must(called.startsWith("WhichDay") || called.matches(LIBRARY), "of the library: " + called + " in " + file);
            }
        }
    }
}
