import java.nio.charset.StandardCharsets;
import java.nio.file.Files;
import java.nio.file.Path;
import java.util.ArrayList;
import java.util.List;
import java.util.regex.Matcher;
import java.util.regex.Pattern;

/** Looks through the source of the class for what ../shared/LANGUAGE.md leaves out. */
public final class LanguageTest {
    private static int wrong;

    public static void main(String[] args) throws Exception {
        Path path = Path.of("src/main/java/SaidShallow.java");
        String source = Files.readString(path, StandardCharsets.ISO_8859_1);
        String code = plain(source);
        leftOut(code);
        imports(code);
        names(code);
        statics(code);
        methods(code);
        System.out.println("the source keeps to the language but for " + wrong + " places");
        System.exit(wrong == 0 ? 0 : 1);
    }

    private static void say(String what) {
        wrong++;
        System.out.println(what);
    }

    /** The source without comments, with texts and signs emptied; lines stay where they are. */
    private static String plain(String source) {
        Matcher comment = Pattern.compile("/\\*.*?\\*/|//[^\n]*", Pattern.DOTALL).matcher(source);
        StringBuilder out = new StringBuilder();
        int from = 0;
        while (comment.find()) {
            out.append(source, from, comment.start());
            out.append(comment.group().replaceAll("[^\n]", " "));
            from = comment.end();
        }
        out.append(source.substring(from));
        return out.toString().replaceAll("\"[^\"\n]*\"", "\"\"").replaceAll("'(\\\\.|[^'\n])'", "' '");
    }

    private static void leftOut(String code) {
        String[] words = {"throw", "throws", "try", "catch", "synchronized", "assert", "volatile", "transient",
            "native", "goto", "strictfp", "protected", "var", "Object", "Thread", "Random", "Iterator", "hashCode",
            "toString", "Exception", "Error", "yield", "sealed", "package", "this"};
        for (String word : words) {
            Matcher found = Pattern.compile("\\b" + word + "\\b").matcher(code);
            while (found.find()) {
                boolean isOwn = word.equals("this") && lineOf(code, found.start()).contains("compile(this)");
                if (!isOwn) {
                    say("line " + numberOf(code, found.start()) + ": " + word);
                }
            }
        }
        for (String sign : new String[] {"->", "::", "Exact(", "@", "][", "[][]", "System.out", "System.nano"}) {
            int at = code.indexOf(sign);
            if (at >= 0) {
                say("line " + numberOf(code, at) + ": " + sign);
            }
        }
        Matcher joined = Pattern.compile("\"\"\\s*\\+|\\+\\s*\"\"").matcher(code);
        if (joined.find()) {
            say("line " + numberOf(code, joined.start()) + ": texts joined by +");
        }
        for (int i = 0; i < code.length(); i++) {
            if (code.charAt(i) > 126) {
                say("line " + numberOf(code, i) + ": a sign beyond 126");
            }
        }
    }

    private static void imports(String code) {
        Matcher found = Pattern.compile("(?m)^import (.*);").matcher(code);
        while (found.find()) {
            if (!found.group(1).equals("java.util.Arrays")) {
                say("import " + found.group(1));
            }
        }
        Matcher library = Pattern.compile("\\b(Arrays|System|Math|Integer|Long)\\.(\\w+)").matcher(code);
        List<String> known = List.of("Arrays.fill", "Arrays.copyOf", "Arrays.copyOfRange", "System.arraycopy",
            "Math.min", "Math.max", "Math.abs", "Integer.bitCount");
        while (library.find()) {
            if (!known.contains(library.group())) {
                say("line " + numberOf(code, library.start()) + ": " + library.group());
            }
        }
    }

    /** No private method, here or in a class inside, bears the name of a public one. */
    private static void names(String code) {
        List<String> open = new ArrayList<>();
        Matcher face = Pattern.compile("(?m)^    public (?:int|boolean) (\\w+)\\(").matcher(code);
        while (face.find()) {
            open.add(face.group(1));
        }
        Matcher other = Pattern.compile("(?m)^(?:    private|        )[\\w ]*? (\\w+)\\([^;]*\\{$").matcher(code);
        while (other.find()) {
            if (open.contains(other.group(1))) {
                say("line " + numberOf(code, other.start()) + ": a private " + other.group(1));
            }
        }
        if (open.size() != 29) {
            say("public methods: " + open.size());
        }
    }

    private static void statics(String code) {
        Matcher field = Pattern.compile("(?m)^ *(?:public |private )?static (?!final)[^(]*[;=]").matcher(code);
        while (field.find()) {
            say("line " + numberOf(code, field.start()) + ": a static field that is not final");
        }
        Matcher inside = Pattern.compile("(?m)^ +(.*)\\b(class|interface|enum|record) \\w+").matcher(code);
        int classes = 1;
        while (inside.find()) {
            classes++;
            if (!inside.group(1).contains("static")) {
                say("line " + numberOf(code, inside.start()) + ": a class that is not static");
            }
        }
        if (classes > 12) {
            say("classes: " + classes);
        }
    }

    private static void methods(String code) {
        String[] lines = code.split("\n", -1);
        int start = -1;
        String indent = "";
        for (int i = 0; i < lines.length; i++) {
            Matcher head = Pattern.compile("^( {4}| {8})[\\w\\[\\] ]*\\w\\((.*)").matcher(lines[i]);
            if (head.find() && !lines[i].endsWith(";")) {
                start = i;
                indent = head.group(1);
                String parameters = head.group(2) + lines[i + 1];
                int end = parameters.indexOf(')');
                if (end >= 0 && parameters.substring(0, end).split(",").length > 7) {
                    say("line " + (i + 1) + ": more than seven parameters");
                }
            }
            if (start >= 0 && lines[i].equals(indent + "}")) {
                if (i - start + 1 > 60) {
                    say("line " + (start + 1) + ": a method of " + (i - start + 1) + " lines");
                }
                start = -1;
            }
        }
    }

    private static int numberOf(String code, int at) {
        return code.substring(0, at).split("\n", -1).length;
    }

    private static String lineOf(String code, int at) {
        int from = code.lastIndexOf('\n', at) + 1;
        int to = code.indexOf('\n', at);
        return code.substring(from, to < 0 ? code.length() : to);
    }
}
