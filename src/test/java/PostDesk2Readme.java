import java.io.File;
import java.io.IOException;
import java.io.StringWriter;
import java.lang.reflect.Field;
import java.lang.reflect.Method;
import java.lang.reflect.Modifier;
import java.net.URL;
import java.net.URLClassLoader;
import java.nio.file.Files;
import java.nio.file.Path;
import java.util.ArrayList;
import java.util.List;
import java.util.TreeSet;
import java.util.function.Consumer;
import java.util.regex.Matcher;
import java.util.regex.Pattern;
import javax.tools.JavaCompiler;
import javax.tools.StandardJavaFileManager;
import javax.tools.ToolProvider;

/**
 * Holds README.md against the class: its examples are compiled and run, each call beside the answer that stands behind
 * it; its constants and methods must be those of the face. It is run in the project's directory.
 */
public final class PostDesk2Readme {
    private static final String NAME = "ReadmeExamples";

    private static final Pattern SHOWN = Pattern.compile("(?:(int|long|boolean) (\\w+) = )?(desk\\.(\\w+)\\([^;]*\\));"
        + " *// (-?\\d+|true|false|PostDesk2\\.[A-Z]+)(?:[,:] .*)?");
    private static final Pattern METHOD = Pattern.compile("### `(\\w+) (\\w+)\\((.*)\\)`");
    private static final Pattern CONSTANT = Pattern.compile(
        "\\| `PostDesk2\\.([A-Z]+)` *\\| `(\\w+)` *\\| `(-?\\d+)` *\\|.*");

    private static int wrong = 0;

    private static final List<String> methodsShown = new ArrayList<>();
    private static final List<String> answersShown = new ArrayList<>();

    private static void fault(String what) {
        wrong++;
        System.out.println("README.md: " + what);
    }

    public static void main(String[] args) throws Exception {
        List<String> readme = Files.readAllLines(Path.of("README.md"));
        methodsAreThoseOfTheFace(readme);
        constantsAreThoseOfTheFace(readme);
        examplesAnswerAsShown(readme);
        eachMethodAndRefusalIsShown();
        System.out.println(wrong == 0 ? methodsShown.size() + " calls answer as README.md shows"
            : wrong + " faults in README.md");
        if (wrong != 0) {
            System.exit(1);
        }
    }

    private static void same(String what, TreeSet<String> got, TreeSet<String> want) {
        if (!got.equals(want)) {
            fault(what + " are " + got + ", due is " + want);
        }
    }

    private static void methodsAreThoseOfTheFace(List<String> readme) {
        TreeSet<String> got = new TreeSet<>();
        for (String line : readme) {
            Matcher method = METHOD.matcher(line);
            if (method.matches()) {
                // Reflection tells no names of parameters, so only their types are held against the class.
                String types = method.group(3).replaceAll("(\\w+) \\w+", "$1").replace(" ", "");
                got.add(method.group(1) + " " + method.group(2) + "(" + types + ")");
            }
        }
        TreeSet<String> want = new TreeSet<>();
        for (Method method : publicMethods()) {
            StringBuilder types = new StringBuilder();
            for (Class<?> type : method.getParameterTypes()) {
                types.append(types.length() == 0 ? "" : ",").append(type);
            }
            want.add(method.getReturnType() + " " + method.getName() + "(" + types + ")");
        }
        same("the methods", got, want);
        if (!readme.contains("### `PostDesk2()`")) {
            fault("the constructor is missing");
        }
    }

    private static List<Method> publicMethods() {
        List<Method> methods = new ArrayList<>();
        for (Method method : PostDesk2.class.getDeclaredMethods()) {
            if (Modifier.isPublic(method.getModifiers())) {
                methods.add(method);
            }
        }
        return methods;
    }

    private static void constantsAreThoseOfTheFace(List<String> readme) throws IllegalAccessException {
        TreeSet<String> got = new TreeSet<>();
        for (String line : readme) {
            Matcher constant = CONSTANT.matcher(line);
            if (constant.matches()) {
                got.add(constant.group(2) + " " + constant.group(1) + " = " + constant.group(3));
            }
        }
        TreeSet<String> want = new TreeSet<>();
        for (Field field : PostDesk2.class.getFields()) {
            want.add(field.getType() + " " + field.getName() + " = " + field.get(null));
        }
        same("the constants", got, want);
    }

    private static void eachMethodAndRefusalIsShown() {
        for (Method method : publicMethods()) {
            if (!methodsShown.contains(method.getName())) {
                fault("no example shows what " + method.getName() + " answers");
            }
        }
        for (Field field : PostDesk2.class.getFields()) {
            if (!answersShown.contains("PostDesk2." + field.getName())) {
                fault("no example shows what answers " + field.getName());
            }
        }
    }

    // The examples.

    /** A program of all examples, each in a block of its own, with each answer shown handed to a check. */
    private static String program(List<String> readme) {
        StringBuilder program = new StringBuilder("public final class " + NAME + " {\n"
            + "static void due(java.util.function.Consumer<String> fault, String call, Object got, Object want) {\n"
            + "if (!got.toString().equals(want.toString())) fault.accept(call + \" answered \" + got);\n}\n"
            + "public static void run(java.util.function.Consumer<String> fault) {\n");
        boolean inExample = false;
        int number = 0;
        for (String line : readme) {
            number++;
            if (line.equals("```java")) {
                inExample = true;
                program.append("{\n");
            } else if (inExample && line.equals("```")) {
                inExample = false;
                program.append("}\n");
            } else if (inExample) {
                program.append(checked(number, line.trim()));
            }
        }
        return program.append("}\n}\n").toString();
    }

    private static String checked(int number, String line) {
        Matcher shown = SHOWN.matcher(line);
        if (!shown.matches()) {
            if (line.contains("//")) {
                fault("line " + number + " shows no answer: " + line);
            }
            return line + "\n";
        }
        methodsShown.add(shown.group(4));
        String answer = shown.group(5);
        answersShown.add(answer);
        String want = answer.matches("-?\\d+") ? answer + "L" : answer;
        String told = "\"line " + number + ", due is " + answer + ": " + shown.group(3) + "\"";
        if (shown.group(1) == null) {
            return "due(fault, " + told + ", " + shown.group(3) + ", " + want + ");\n";
        }
        return shown.group(1) + " " + shown.group(2) + " = " + shown.group(3) + ";\n"
            + "due(fault, " + told + ", " + shown.group(2) + ", " + want + ");\n";
    }

    private static void examplesAnswerAsShown(List<String> readme) throws Exception {
        Path dir = Files.createTempDirectory("readme");
        try {
            Path source = dir.resolve(NAME + ".java");
            Files.writeString(source, program(readme));
            if (isCompiled(source, dir)) {
                run(dir);
            }
        } finally {
            delete(dir);
        }
    }

    private static boolean isCompiled(Path source, Path dir) throws IOException {
        JavaCompiler compiler = ToolProvider.getSystemJavaCompiler();
        if (compiler == null) {
            fault("its examples need the compiler of a JDK");
            return false;
        }
        StringWriter said = new StringWriter();
        List<String> options = List.of("-d", dir.toString(), "-cp", System.getProperty("java.class.path"));
        try (StandardJavaFileManager files = compiler.getStandardFileManager(null, null, null)) {
            boolean compiled = compiler.getTask(said, files, null, options, null, files.getJavaFileObjects(source))
                .call();
            if (!compiled) {
                fault("its examples do not compile: " + said);
            }
            return compiled;
        }
    }

    private static void run(Path dir) throws Exception {
        Consumer<String> fault = PostDesk2Readme::fault;
        try (URLClassLoader loader = new URLClassLoader(new URL[] {dir.toUri().toURL()})) {
            loader.loadClass(NAME).getMethod("run", Consumer.class).invoke(null, fault);
        }
    }

    private static void delete(Path dir) throws IOException {
        File[] files = dir.toFile().listFiles();
        if (files != null) {
            for (File file : files) {
                Files.delete(file.toPath());
            }
        }
        Files.delete(dir);
    }
}
