import java.io.IOException;
import java.lang.reflect.Constructor;
import java.lang.reflect.Field;
import java.lang.reflect.Method;
import java.lang.reflect.Modifier;
import java.nio.file.Files;
import java.nio.file.Path;
import java.util.ArrayList;
import java.util.List;

/** The face of the class is that of the document, and nothing besides; some rules of the language are kept. */
public final class FaceTests {
    private static final String[] RULED_OUT = {"->", "::", "try {", "catch", "finally", "synchronized", "assert ",
        "System.exit", "System.out", "Exact(", "MAX_VALUE", "MIN_VALUE", "Float.", "Double.", "Object[]", "@", "\" +", "+ \""};

    private static int wrong = 0;

    private static void fail(String what) {
        wrong++;
        System.out.println(what);
    }

    private static String names(Class<?>[] types) {
        StringBuilder s = new StringBuilder();
        for (Class<?> type : types) {
            s.append(s.length() == 0 ? "" : ", ").append(type.getSimpleName());
        }
        return s.toString();
    }

    private static String face(Method m) {
        String thrown = names(m.getExceptionTypes());
        return m.getReturnType().getSimpleName() + " " + m.getName() + "(" + names(m.getParameterTypes()) + ")"
            + (thrown.isEmpty() ? "" : " throws " + thrown);
    }

    /** The methods of the document, without the names of their arguments. */
    private static List<String> told() throws IOException {
        List<String> faces = new ArrayList<>();
        for (String line : Files.readAllLines(Path.of("../shared/DOC.md"))) {
            if (line.startsWith("    public ") && line.endsWith(";") && !line.contains("Feederbank(")) {
                String face = line.trim().replace("public ", "").replace(";", "");
                int open = face.indexOf('(');
                int close = face.indexOf(')');
                String types = face.substring(open + 1, close).replaceAll("(\\w+) \\w+", "$1");
                faces.add(face.substring(0, open + 1) + types + face.substring(close));
            }
        }
        return faces;
    }

    private static void checkMethods() throws IOException {
        List<String> told = told();
        List<String> open = new ArrayList<>();
        List<String> hidden = new ArrayList<>();
        for (Method m : Feederbank.class.getDeclaredMethods()) {
            if (Modifier.isPublic(m.getModifiers())) {
                open.add(face(m));
                if (Modifier.isStatic(m.getModifiers())) {
                    fail(m + " is static");
                }
            } else if (!Modifier.isPrivate(m.getModifiers())) {
                fail(m + " is neither public nor private");
            } else {
                hidden.add(m.getName());
            }
        }
        for (String face : told) {
            if (!open.contains(face)) {
                fail("missing: " + face);
            }
            if (hidden.contains(face.substring(face.indexOf(' ') + 1, face.indexOf('(')))) {
                fail("private, too: " + face);
            }
        }
        if (told.size() != 53 || open.size() != 53) {
            fail(told.size() + " methods are told, " + open.size() + " are there");
        }
    }

    private static void checkRest() throws IOException {
        for (Field f : Feederbank.class.getDeclaredFields()) {
            boolean isConstant = Modifier.isFinal(f.getModifiers());
            if (!Modifier.isPrivate(f.getModifiers()) || Modifier.isStatic(f.getModifiers()) && !isConstant) {
                fail(f + " is not as it must be");
            }
        }
        Constructor<?>[] made = Feederbank.class.getDeclaredConstructors();
        if (made.length != 1 || made[0].getParameterCount() != 0 || !Modifier.isPublic(made[0].getModifiers())) {
            fail("the constructor is not that of the document");
        }
        if (!Modifier.isFinal(Feederbank.class.getModifiers()) || !Modifier.isPublic(Feederbank.class.getModifiers())) {
            fail("the class is not public and final");
        }
        List<String> lines = Files.readAllLines(Path.of("src/main/java/Feederbank.java"));
        for (int i = 0; i < lines.size(); i++) {
            for (String sign : RULED_OUT) {
                if (lines.get(i).contains(sign)) {
                    fail("line " + (i + 1) + " has " + sign);
                }
            }
        }
    }

    public static void main(String[] args) throws IOException {
        checkMethods();
        checkRest();
        System.out.println(wrong == 0 ? "the face is that of the document" : wrong + " faults of the face");
        if (wrong != 0) {
            System.exit(1);
        }
    }
}
