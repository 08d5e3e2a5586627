import java.io.DataInputStream;
import java.io.IOException;
import java.lang.reflect.Field;
import java.lang.reflect.Modifier;
import java.nio.file.Files;
import java.nio.file.Path;
import java.util.ArrayList;
import java.util.List;

/** The rules of the language that the program's text and its class files can show to be kept. */
public final class LanguageTest extends Checks {
    private static final String ALLOWED_LIBRARY = "java/lang/Object\\.<init>"
            + "|java/lang/(IllegalState|IllegalArgument|IndexOutOfBounds)Exception\\.<init>"
            + "|java/util/NoSuchElementException\\.<init>"
            + "|java/lang/(Math|Integer|Long)\\.(compare|max|min|abs|bitCount|floorDiv|floorMod)"
            + "|java/lang/System\\.arraycopy"
            + "|java/util/Arrays\\.(copyOf|copyOfRange|fill)";
    private static final String[] RULED_OUT = {"->", "::", "package ", "assert ", "synchronized", "finally", "try (",
        "static {", "Exact(", "float ", "double ", "getMessage", "native ", "volatile "};

    private static final int UTF8 = 1;
    private static final int LONG = 5;
    private static final int DOUBLE = 6;
    private static final int CLASS = 7;
    private static final int METHOD = 10;
    private static final int INTERFACE_METHOD = 11;
    private static final int NAME_AND_TYPE = 12;
    private static final int METHOD_HANDLE = 15;
    private static final int INVOKE_DYNAMIC = 18;

    /** A class file's table of constants, as far as names of classes and methods need it. */
    private static final class Constants {
        final int[] tags;
        final int[] first;
        final int[] second;
        final String[] texts;

        Constants(DataInputStream in) throws IOException {
            in.skipBytes(8);
            int count = in.readUnsignedShort();
            tags = new int[count];
            first = new int[count];
            second = new int[count];
            texts = new String[count];
            for (int i = 1; i < count; i++) {
                read(in, i);
                if (tags[i] == LONG || tags[i] == DOUBLE) {
                    i++;
                }
            }
        }

        private void read(DataInputStream in, int i) throws IOException {
            tags[i] = in.readUnsignedByte();
            if (tags[i] == UTF8) {
                texts[i] = in.readUTF();
            } else if (tags[i] == LONG || tags[i] == DOUBLE) {
                in.skipBytes(8);
            } else if (tags[i] == CLASS || tags[i] == 8 || tags[i] == 16 || tags[i] == 19 || tags[i] == 20) {
                first[i] = in.readUnsignedShort();
            } else if (tags[i] == METHOD_HANDLE) {
                in.skipBytes(3);
            } else {
                first[i] = in.readUnsignedShort();
                second[i] = in.readUnsignedShort();
            }
        }

        String ownerOf(int i) {
            return texts[first[first[i]]];
        }

        String nameOf(int i) {
            return texts[first[second[i]]];
        }
    }

    private static void usesOnlyTheListedLibrary(Class<?> owner) throws IOException {
        try (DataInputStream in = new DataInputStream(owner.getResourceAsStream("/" + owner.getName() + ".class"))) {
            Constants constants = new Constants(in);
            for (int i = 1; i < constants.tags.length; i++) {
                int tag = constants.tags[i];
                if (tag >= METHOD_HANDLE && tag <= INVOKE_DYNAMIC) {
                    tell("rule 2: a lambda, a method reference or a joined text in " + owner.getName());
                }
                if (tag == METHOD || tag == INTERFACE_METHOD) {
                    checkUse(constants.ownerOf(i), constants.nameOf(i));
                }
            }
        }
    }

    private static void checkUse(String owner, String name) {
        boolean own = owner.equals("RiverDesk") || owner.startsWith("RiverDesk$") || owner.startsWith("[");
        if (!own && !(owner + "." + name).matches(ALLOWED_LIBRARY)) {
            tell("rule 4: " + owner + "." + name + " is not listed");
        }
    }

    private static void fieldsAreFewAndOfListedTypes(Class<?> owner) {
        int count = 0;
        for (Field field : owner.getDeclaredFields()) {
            if (Modifier.isStatic(field.getModifiers())) {
                String type = field.getType().getSimpleName();
                if (!type.matches("int|long|boolean|char|String|(int|long|char|byte)\\[\\]")) {
                    tell("rule 5: " + field);
                }
            } else {
                count++;
            }
        }
        if (count > 20) {
            tell("rule 11: " + owner + " has " + count + " fields");
        }
    }

    private static void textKeepsTheRules(List<String> lines) {
        for (String line : lines) {
            for (String word : RULED_OUT) {
                if (line.contains(word)) {
                    tell("ruled out: " + line);
                }
            }
            if (line.startsWith("import ") && !line.matches("import java\\.util\\.(Arrays|NoSuchElementException);")) {
                tell("rule 4: " + line);
            }
        }
    }

    /** All of one run lives in one room, so what is made is made with the desk: fields and what they hold. */
    private static void onlyExceptionsAreMadeByCalls(List<String> lines) {
        for (String line : lines) {
            boolean kept = line.matches(" +final \\w+\\[\\] \\w+ = new \\w+\\[.*\\];")
                    || line.matches("        \\w+ = new \\w+\\(\\);");
            boolean thrown = line.matches(" +throw new \\w+\\(\"[a-z ]+\"\\);");
            if (line.contains("new ") && !line.trim().startsWith("*") && !kept && !thrown) {
                tell("rule 12: made by a call: " + line);
            }
        }
    }

    private static void methodsAreShort(List<String> lines) {
        for (String indent : new String[] {"    ", "        "}) {
            int begin = -1;
            for (int i = 0; i < lines.size(); i++) {
                String line = lines.get(i);
                if (line.matches(indent + "\\w.*\\(.*") && !line.contains(" = ") && !line.contains(";")) {
                    begin = i;
                } else if (line.equals(indent + "}") && begin >= 0) {
                    due("rule 11: the method of line " + (begin + 1) + " is short", true, i - begin < 60);
                    begin = -1;
                }
            }
        }
    }

    public static void main(String[] args) throws IOException {
        List<Class<?>> classes = new ArrayList<>(List.of(RiverDesk.class.getDeclaredClasses()));
        classes.add(RiverDesk.class);
        due("rule 11: at most twelve classes", true, classes.size() <= 12);
        for (Class<?> owner : classes) {
            usesOnlyTheListedLibrary(owner);
            fieldsAreFewAndOfListedTypes(owner);
        }
        List<String> lines = Files.readAllLines(Path.of("src/main/java/RiverDesk.java"));
        textKeepsTheRules(lines);
        onlyExceptionsAreMadeByCalls(lines);
        methodsAreShort(lines);
        finish("the language is as due");
    }
}
