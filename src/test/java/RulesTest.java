import java.io.IOException;
import java.lang.management.ManagementFactory;
import java.lang.reflect.Method;
import java.lang.reflect.Modifier;
import java.nio.charset.StandardCharsets;
import java.nio.file.Files;
import java.nio.file.Path;
import java.util.Arrays;
import java.util.Set;
import java.util.TreeSet;
import java.util.regex.Matcher;
import java.util.regex.Pattern;

/** The face of the document, and those rules of LANGUAGE.md that a test can look at. */
public final class RulesTest {
    private static final String FACE = "int feed(int,int,int,int,int) int end(int) int dance() int fault(int) int step(int,int) "
        + "int answers(int) int stumbled(int,int) int muddy(int) int place(int,int) int danced(int,int) int hears(int,int) "
        + "int late(int,int) int hole(int,int) int next(int,int) int holes(int,int,int) int run(int,int) int begins(int,int) "
        + "int undoes(int) int causes(int,int) int period() int meets(int,int,int) int shifted(int) int shift() int least() "
        + "int mend(int) int mended(int,int) int stuck(int) int heard(int,int) int first(int,int) long when(int,int) "
        + "int listen(int,int) int leaves(int,int) int crosses(int) int returns(int) int meet(int,int) int cell(int,int) "
        + "int longest() int half(int) int fills(int,int) int open(int) long together(int,int) long again(int) int most() "
        + "int chorus() int treaties() int leads(int) int game(int) int plays(int) long dry(int,int) long wet(int,int,int) "
        + "int drawn(int,int,int) int nights(int,int,int) int stumble(int,int,int,int) int mud(int,int) int teach(int,int,int) "
        + "int undo() int count(int) int image(int) int back(int) int row(int,int,int) int write(int,int,long) "
        + "int paste(int,int,int,int,int)";
    private static int wrong = 0;

    private static void look(String what, boolean good) {
        if (!good) {
            wrong++;
            System.out.println("not so: " + what);
        }
    }

    private static String told(Method m) {
        StringBuilder b = new StringBuilder(m.getReturnType().getName()).append(' ').append(m.getName()).append('(');
        for (Class<?> p : m.getParameterTypes()) {
            b.append(b.charAt(b.length() - 1) == '(' ? "" : ",").append(p.getName());
        }
        return b.append(')').toString();
    }

    private static void face() throws NoSuchFieldException, IllegalAccessException {
        Set<String> due = new TreeSet<>(Arrays.asList(FACE.split(" (?=int |long )")));
        Set<String> is = new TreeSet<>();
        Set<String> names = new TreeSet<>();
        for (Method m : OverHill.class.getDeclaredMethods()) {
            if (Modifier.isPublic(m.getModifiers())) {
                is.add(told(m));
                names.add(m.getName());
                look("no static call: " + m, !Modifier.isStatic(m.getModifiers()));
            } else {
                look("private: " + m, Modifier.isPrivate(m.getModifiers()) || m.isSynthetic());
            }
        }
        look("the face is " + due + ", not " + is, due.equals(is) && due.size() == 62);
        look("one constructor", OverHill.class.getDeclaredConstructors().length == 1);
        look("final", Modifier.isFinal(OverHill.class.getModifiers()));
        look("NONE", OverHill.class.getField("NONE").getInt(null) == -1 && OverHill.class.getFields().length == 1);
        look("fields of OverHill", countFields(OverHill.class) <= 20);
        look("at most some twelve classes", OverHill.class.getDeclaredClasses().length + 1 <= 12);
        for (Class<?> c : OverHill.class.getDeclaredClasses()) {
            look("static: " + c, Modifier.isStatic(c.getModifiers()) && !Modifier.isPublic(c.getModifiers()));
            look("fields of " + c, countFields(c) <= 20);
            for (Method m : c.getDeclaredMethods()) {
                look("no name of a public one: " + m, !names.contains(m.getName()));
            }
        }
        for (Method m : OverHill.class.getDeclaredMethods()) {
            look("no name of a public one: " + m, Modifier.isPublic(m.getModifiers()) || !names.contains(m.getName()));
        }
    }

    private static int countFields(Class<?> c) {
        int fields = 0;
        for (var f : c.getDeclaredFields()) {
            fields += Modifier.isStatic(f.getModifiers()) ? 0 : 1;
        }
        return fields;
    }

    private static void source() throws IOException {
        String text = Files.readString(Path.of("src/main/java/OverHill.java"), StandardCharsets.ISO_8859_1);
        look("signs 1 to 127", text.chars().allMatch(c -> c > 0 && c < 128));
        String bare = text.replaceAll("(?s)/\\*.*?\\*/", "").replaceAll("//[^\n]*", "").replaceAll("\"[^\"\n]*\"", "\"\"");
        for (String word : "throw throws try catch finally synchronized assert package interface protected native volatile".split(" ")) {
            look("no " + word, !Pattern.compile("\\b" + word + "\\b").matcher(bare).find());
        }
        look("no lambda, no reference to a method", !bare.contains("->") && !bare.contains("::"));
        look("no Exact", !bare.contains("Exact"));
        Matcher imports = Pattern.compile("import ([^;]+);").matcher(bare);
        while (imports.find()) {
            look("import " + imports.group(1), imports.group(1).equals("java.util.Arrays"));
        }
        Matcher calls = Pattern.compile("\\b(Math|Integer|Long|System|Arrays|String|StringBuilder)\\.(\\w+)").matcher(bare);
        Set<String> may = Set.of("Math.min", "Math.max", "Math.floorMod", "Integer.bitCount", "Integer.numberOfTrailingZeros",
            "System.arraycopy", "Arrays.fill");
        while (calls.find()) {
            look("library: " + calls.group(), may.contains(calls.group()));
        }
        int lines = 0;
        boolean inside = false;
        for (String line : text.split("\n")) {
            if (line.matches(" {4,8}[a-z].*\\) \\{")) {
                inside = true;
                lines = 0;
                look("at most seven parameters: " + line, line.chars().filter(c -> c == ',').count() < 7);
            }
            lines++;
            if (inside && line.matches(" {4}(    )?\\}")) {
                inside = false;
                look("short, ends with line " + line + " after " + lines, lines <= 60);
            }
        }
    }

    /** Calls of every kind, that make nothing: what a run makes is made with its objects. */
    private static long calls(OverHill x, int[][] text, int length) {
        long sum = x.end(0);
        for (int[] n : text) {
            sum += x.feed(n[0], n[1], n[2], n[3], n[4]);
        }
        sum += x.end(length) + x.dance() + x.fault(0) + x.step(0, 0) + x.answers(0) + x.stumbled(0, 0) + x.muddy(0);
        sum += x.place(0, 9) + x.danced(0, 9) + x.hears(0, 9) + x.late(0, 9) + x.hole(0, 9) + x.next(0, 9) + x.holes(0, 0, 9);
        sum += x.run(0, 9) + x.begins(0, 9) + x.undoes(0) + x.causes(0, 9) + x.period() + x.meets(0, 0, 9) + x.shifted(1);
        sum += x.shift() + x.least() + x.mend(0) + x.mended(1, 0) + x.stuck(0) + x.row(0, 1, 4) + x.write(0, 0, 7) + x.write(0, 1, 1);
        sum += x.heard(0, 0) + x.first(0, 0) + x.when(0, 1) + x.listen(0, 0) + x.leaves(0, 0) + x.crosses(9) + x.returns(9);
        sum += x.meet(3, 9) + x.cell(3, 9) + x.longest() + x.half(0) + x.fills(0, 1) + x.open(0) + x.together(1, 9) + x.again(1);
        sum += x.most() + x.chorus() + x.treaties() + x.leads(0) + x.game(1) + x.plays(1) + x.dry(9, 0) + x.wet(9, 4, 1);
        sum += x.drawn(9, 9, 0) + x.nights(9, 9, 9) + x.stumble(0, 7, 1, 1) + x.mud(3, 1) + x.teach(0, 0, 5) + x.undo();
        sum += x.image(0) + x.count(6) + x.back(0) + x.paste(0, 0, 0, 1, 2) + x.back(0);
        return sum;
    }

    private static void making() {
        String text = "dance gap 1 odds 20 rain 20; round 0 of 0 1 2 begins 0; round 1 of 1 2 begins 1; answers 0 1; answers 2 0 1;"
            + "stumble 0 at 2 does 4 lag 2; mud 4; wood every 3 at 1; tune 4 at 1;";
        int[][] numbers = Texts.numbers(text);
        OverHill x = new OverHill();
        var threads = (com.sun.management.ThreadMXBean) ManagementFactory.getThreadMXBean();
        long self = Thread.currentThread().getId();
        calls(x, numbers, text.length());
        threads.getThreadAllocatedBytes(self);
        long before = threads.getThreadAllocatedBytes(self);
        long between = threads.getThreadAllocatedBytes(self);
        for (int i = 0; i < 7; i++) {
            calls(x, numbers, text.length());
        }
        long made = threads.getThreadAllocatedBytes(self) - between - (between - before);
        look("calls make nothing, but made " + made + " bytes", made < 1000);
    }

    public static void main(String[] args) throws Exception {
        face();
        source();
        making();
        System.out.println(wrong == 0 ? "the rules are kept" : wrong + " rules are not kept");
        if (wrong != 0) {
            System.exit(1);
        }
    }
}
