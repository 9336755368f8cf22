import java.io.IOException;
import java.lang.reflect.Method;
import java.lang.reflect.Modifier;
import java.nio.file.Files;
import java.nio.file.Path;
import java.util.ArrayList;
import java.util.List;

/** README.md's examples do what their comments say, and it names each method of the class. */
public final class ReadmeTest extends Checks {
    private static String read(String file) {
        try {
            return Files.readString(Path.of(file));
        } catch (IOException e) {
            return "";
        }
    }

    /** The lines of README.md's Java, without their comments. */
    private static List<String> examples(String readme) {
        List<String> lines = new ArrayList<>();
        boolean isJava = false;
        for (String line : readme.split("\n")) {
            if (line.startsWith("```")) {
                isJava = line.equals("```java");
            } else if (isJava) {
                lines.add(line.replaceAll("//.*", "").replaceAll(";\\s*$", ""));
            }
        }
        return lines;
    }

    private static void examplesAreThoseBelow() {
        String source = read("src/test/java/ReadmeTest.java");
        List<String> lines = examples(read("README.md"));
        is("there are examples", lines.size() > 20 ? 1 : 0, 1);
        for (String line : lines) {
            is("this test holds " + line, source.contains(line) ? 1 : 0, 1);
        }
    }

    private static void eachMethodIsNamed() {
        String readme = read("README.md");
        for (Method method : Sequencepoint.class.getDeclaredMethods()) {
            if (Modifier.isPublic(method.getModifiers())) {
                String name = "`" + method.getName();
                boolean isNamed = readme.contains(name + "`") || readme.contains(name + "(");
                is(method.getName() + " is named", isNamed ? 1 : 0, 1);
            }
        }
    }

    private static void firstExample() {
        Sequencepoint judge = new Sequencepoint();
        int x = judge.addVariable(2, 0, true);
        int main = judge.addFunction(2, -1, -1);
        int set = judge.simple('e', judge.assign('s', judge.name(x), judge.number(3, 2)));
        int print = judge.simple('p', judge.unary('i', judge.name(x)));
        judge.setBody(main, judge.then(set, print));
        is("run", judge.run(0), 'n');
        is("printed", judge.printed(), 2);
        is("first", judge.printedAt(0), '4');
        is("second", judge.printedAt(1), ' ');
    }

    private static void secondExample() {
        Sequencepoint judge = new Sequencepoint();
        int p = judge.addVariable(2, 0, false);
        judge.addFunction(2, -1, -1);
        int f = judge.addFunction(2, p, -1);
        int show = judge.simple('p', judge.name(p));
        judge.setBody(f, judge.then(show, judge.simple('r', judge.name(p))));
        int one = judge.call(f, judge.number(1, 2), -1);
        int two = judge.call(f, judge.number(2, 2), -1);
        judge.setBody(0, judge.simple('p', judge.binary('-', one, two)));
        is("run", judge.run(1), 'n');
        is("text", text(judge), ":2 1 -1 ");
        is("choices", judge.choices(), 1);
        is("behaviours", judge.behaviours(), 2);
        is("the other one", again(judge, 0), "n:1 2 -1 ");
        int x = judge.addVariable(2, 0, true);
        int start = judge.simple('e', judge.assign('s', judge.name(x), judge.number(7, 2)));
        int both = judge.binary('+', judge.unary('I', judge.name(x)), judge.name(x));
        judge.setBody(0, judge.then(start, judge.simple('p', both)));
        is("run", judge.run(0), 'x');
        is("kind", judge.kindOf(), 'u');
        is("place", judge.placeOf(), both);
        is("orders", judge.undefinedOrders(), 16);
    }

    public static void main(String[] args) {
        about("README.md", ReadmeTest::examplesAreThoseBelow, ReadmeTest::eachMethodIsNamed);
        about("The first example", ReadmeTest::firstExample);
        about("The second example", ReadmeTest::secondExample);
        finish("ReadmeTest");
    }
}
