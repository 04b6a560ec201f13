import java.io.IOException;
import java.lang.reflect.Method;
import java.lang.reflect.Modifier;
import java.nio.file.Files;
import java.nio.file.Path;
import java.util.ArrayList;
import java.util.List;

/** README.md: its example answers what it says, and every call of the face has a line in its tables. */
public final class ReadmeTest {
    private static final Due DUE = new Due("ReadmeTest");

    public static void main(String[] args) throws IOException {
        List<String> readme = Files.readAllLines(Path.of("README.md"));
        List<String> example = example(readme);
        exampleIsTheOneThatRunsHere(example);
        exampleAnswersWhatItSays(example);
        everyCallHasALine(readme);
        DUE.end();
    }

    private static List<String> example(List<String> readme) {
        int begin = readme.indexOf("```java") + 1;
        int end = begin;
        while (end < readme.size() && !readme.get(end).equals("```")) {
            end++;
        }
        DUE.yes("the README has an example", begin > 0 && end > begin);
        return readme.subList(begin, end);
    }

    private static int[] answers() {
        VolumeHouse house = new VolumeHouse();
        int title = house.title(3);
        int cost = house.buy(title, 1);
        int reader = house.reader(0, 0, 100);
        int wish = house.wish(reader, title);
        int now = house.go(1);
        int where = house.copy(0, 0);
        int later = house.go(8);
        int fee = house.back(0);
        int owed = house.pay(reader, 5);
        int had = house.wished(wish, 1);
        int twice = house.wish(reader, title);
        return new int[] {title, cost, reader, wish, now, where, later, fee, owed, had, twice};
    }

    /** The lines of the example stand above as well, so that what runs is what is told. */
    private static void exampleIsTheOneThatRunsHere(List<String> example) throws IOException {
        List<String> run = new ArrayList<>();
        for (String line : Files.readAllLines(Path.of("src/test/java/ReadmeTest.java"))) {
            run.add(line.trim());
        }
        for (String line : example) {
            DUE.yes("runs here: " + line, run.contains(line.split("//")[0].trim()));
        }
    }

    private static void exampleAnswersWhatItSays(List<String> example) {
        int[] answers = answers();
        int told = 0;
        for (String line : example) {
            String[] callAndAnswer = line.split("// ");
            if (callAndAnswer.length == 2 && told < answers.length) {
                int said = Integer.parseInt(callAndAnswer[1].split(":")[0]);
                DUE.is(line, answers[told], said);
                told++;
            }
        }
        DUE.is("answers that the example tells", told, answers.length);
    }

    private static void everyCallHasALine(List<String> readme) {
        for (Method m : VolumeHouse.class.getDeclaredMethods()) {
            if (Modifier.isPublic(m.getModifiers())) {
                int lines = 0;
                for (String line : readme) {
                    lines += line.startsWith("| `" + m.getName() + "(") && parameters(line) == m.getParameterCount() ? 1 : 0;
                }
                DUE.is("lines of " + m.getName(), lines, 1);
            }
        }
    }

    private static int parameters(String line) {
        return line.substring(line.indexOf('('), line.indexOf(')')).split(",").length;
    }
}
