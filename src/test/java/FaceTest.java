import java.io.IOException;
import java.lang.reflect.Constructor;
import java.lang.reflect.Executable;
import java.lang.reflect.Field;
import java.lang.reflect.Method;
import java.lang.reflect.Modifier;
import java.nio.file.Files;
import java.nio.file.Path;
import java.util.ArrayList;
import java.util.Arrays;
import java.util.Collections;
import java.util.List;

/** The public face, as the document has it, and nothing besides it. */
public final class FaceTest {
    private static final String[] FACE = {
        "int about(int,int) IndexOutOfBoundsException",
        "int advise()",
        "int at(int,int,int,int) IndexOutOfBoundsException",
        "int ball(int,int,int) IndexOutOfBoundsException",
        "int cat(int) IllegalArgumentException IllegalStateException",
        "int chase(int) IndexOutOfBoundsException",
        "int count(int) IndexOutOfBoundsException",
        "int fire(int,int) IndexOutOfBoundsException IllegalArgumentException IllegalStateException",
        "int foresee(int,int) IllegalArgumentException IndexOutOfBoundsException",
        "int gather()",
        "int give(int,int) IndexOutOfBoundsException IllegalArgumentException",
        "int inspect(int) IndexOutOfBoundsException",
        "int mouser(int,int) IndexOutOfBoundsException",
        "int pass(int) IllegalArgumentException",
        "int pile(int,int) IndexOutOfBoundsException IllegalArgumentException IllegalStateException",
        "int room(int) IllegalArgumentException",
        "int scour(int) IndexOutOfBoundsException",
        "int setLimit(int) IllegalArgumentException",
        "int setRain(int) IllegalArgumentException",
        "int shift(int,int) IndexOutOfBoundsException IllegalArgumentException",
        "int side(int) IllegalArgumentException",
        "int stack(int,int) IndexOutOfBoundsException IllegalArgumentException IllegalStateException",
        "int told(int,int) IndexOutOfBoundsException",
        "int until(int) IndexOutOfBoundsException",
        "int would(int) IndexOutOfBoundsException",
        "double mean()",
        "long digest()",
    };

    /** The same as the document writes it, with the names of what is handed over, and its headings. */
    private static final String WRITTEN = """
        public final class CannonStacks
        public CannonStacks()
        // ---- the bastion
        public int pile(int calibre, int side) throws IndexOutOfBoundsException, IllegalArgumentException, IllegalStateException
        public int cat(int leap) throws IllegalArgumentException, IllegalStateException
        public int give(int calibre, int many) throws IndexOutOfBoundsException, IllegalArgumentException
        public int setRain(int rain) throws IllegalArgumentException
        public int setLimit(int limit) throws IllegalArgumentException
        // ---- work
        public int stack(int pile, int many) throws IndexOutOfBoundsException, IllegalArgumentException, IllegalStateException
        public int fire(int pile, int many) throws IndexOutOfBoundsException, IllegalArgumentException, IllegalStateException
        public int scour(int pile) throws IndexOutOfBoundsException
        public int inspect(int pile) throws IndexOutOfBoundsException
        public int shift(int from, int to) throws IndexOutOfBoundsException, IllegalArgumentException
        public int gather()
        public int chase(int cat) throws IndexOutOfBoundsException
        // ---- what there is
        public int about(int pile, int what) throws IndexOutOfBoundsException
        public int ball(int pile, int ball, int what) throws IndexOutOfBoundsException
        public int at(int pile, int layer, int row, int place) throws IndexOutOfBoundsException
        public int told(int calibre, int what) throws IndexOutOfBoundsException
        public int mouser(int cat, int what) throws IndexOutOfBoundsException
        public int count(int what) throws IndexOutOfBoundsException
        // ---- pyramids
        public int room(int side) throws IllegalArgumentException
        public int side(int many) throws IllegalArgumentException
        // ---- days and what would be
        public int pass(int days) throws IllegalArgumentException
        public int until(int pile) throws IndexOutOfBoundsException
        public int foresee(int days, int what) throws IllegalArgumentException, IndexOutOfBoundsException
        public int would(int pile) throws IndexOutOfBoundsException
        public int advise()
        public double mean()
        public long digest()
        """;

    private FaceTest() {
    }

    public static void main(String[] args) throws IOException {
        written();
        compiled();
        Check.end();
    }

    /** What the program's file says itself, in the document's order. */
    private static void written() throws IOException {
        List<String> got = new ArrayList<>();
        for (String line : Files.readAllLines(Path.of("src/main/java/CannonStacks.java"))) {
            String said = line.strip();
            if (said.startsWith("public ") || said.startsWith("// ----")) {
                got.add(said.endsWith(" {") ? said.substring(0, said.length() - 2) : said);
            }
        }
        Check.same("face: as it is written", got, WRITTEN.lines().toList());
    }

    private static void compiled() {
        Class<?> face = CannonStacks.class;
        Check.due("face: a public final class", face.getModifiers(), Modifier.PUBLIC | Modifier.FINAL);
        List<String> hidden = new ArrayList<>();
        List<String> got = new ArrayList<>();
        for (Method method : face.getDeclaredMethods()) {
            if (Modifier.isPrivate(method.getModifiers())) {
                hidden.add(method.getName());
            } else {
                Check.due("face: public: " + method, method.getModifiers(), Modifier.PUBLIC);
                got.add(method.getReturnType().getSimpleName() + " " + method.getName() + told(method));
            }
        }
        List<String> want = new ArrayList<>(Arrays.asList(FACE));
        Collections.sort(want);
        Collections.sort(got);
        if (!want.equals(got)) {
            Check.tell("face: the methods are " + got + ", due are " + want);
        }
        for (Constructor<?> constructor : face.getDeclaredConstructors()) {
            Check.due("face: constructor", constructor.getParameterCount() + constructor.getModifiers(), Modifier.PUBLIC);
        }
        for (Field field : face.getDeclaredFields()) {
            Check.due("face: private: " + field, field.getModifiers() & Modifier.PRIVATE, Modifier.PRIVATE);
        }
        for (Class<?> inner : face.getDeclaredClasses()) {
            Check.due("face: static: " + inner, inner.getModifiers() & (Modifier.STATIC | Modifier.PUBLIC), Modifier.STATIC);
            for (Method method : inner.getDeclaredMethods()) {
                hidden.add(method.getName());
            }
        }
        for (String name : hidden) {
            for (String method : FACE) {
                if (method.contains(" " + name + "(")) {
                    Check.tell("face: a hidden method bears the public name " + name);
                }
            }
        }
    }

    private static String told(Executable method) {
        StringBuilder told = new StringBuilder("(");
        for (Class<?> type : method.getParameterTypes()) {
            told.append(told.length() > 1 ? "," : "").append(type.getSimpleName());
        }
        told.append(")");
        for (Class<?> type : method.getExceptionTypes()) {
            told.append(" ").append(type.getSimpleName());
        }
        return told.toString();
    }
}
