import java.io.IOException;
import java.nio.file.Files;
import java.nio.file.Path;
import java.util.ArrayList;
import java.util.List;

/** The example of README.md: its lines are these, and behind each one stands what the class answers. */
public final class ReadmeTests {
    private static final List<String> LINES = new ArrayList<>();

    public static void main(String[] args) throws IOException {
        PlateAndPoint armoury = new PlateAndPoint();
        LINES.add("PlateAndPoint armoury = new PlateAndPoint();");
        line("int man = armoury.addMan();", PlateAndPoint::addMan, armoury);
        line("int plate = armoury.makePlate(40, 20, 4, 20, 1);", x -> x.makePlate(40, 20, 4, 20, 1), armoury);
        line("char hard = armoury.quench(plate, 800, 'o');", x -> x.quench(0, 800, 'o'), armoury);
        line("int hardness = armoury.temper(plate, 300);", x -> x.temper(0, 300), armoury);
        line("int withstands = armoury.of(plate, 'n');", x -> x.of(0, 'n'), armoury);
        line("int bears = armoury.wear(man, 0, plate);", x -> x.wear(0, 0, 0), armoury);
        line("char glanced = armoury.strike(man, 0, 'p', 60, 500);", x -> x.strike(0, 0, 'p', 60, 500), armoury);
        line("char dented = armoury.strike(man, 0, 'p', 0, 100);", x -> x.strike(0, 0, 'p', 0, 100), armoury);
        line("char wounded = armoury.strike(man, 0, 's', 0, 900);", x -> x.strike(0, 0, 's', 0, 900), armoury);
        line("int wounds = armoury.wounds(man);", x -> x.wounds(0), armoury);
        line("armoury.bend(man, 0, 91);", x -> x.bend(0, 0, 91), armoury);
        List<String> told = exampleOf(Path.of("README.md"));
        Due.is("README.md, lines of the example", told.size(), LINES.size());
        for (int k = 0; k < Math.min(told.size(), LINES.size()); k++) {
            Due.is("README.md, line " + k, told.get(k), LINES.get(k));
        }
        Due.end();
    }

    private static void line(String code, Run.Call call, PlateAndPoint armoury) {
        Object got = Run.answerOf(armoury, call);
        if (got instanceof Class) {
            LINES.add(code + " // throws " + ((Class<?>) got).getSimpleName());
        } else {
            LINES.add(code + " // " + (got instanceof Character ? "'" + got + "'" : got));
        }
    }

    /** The lines of the first block of Java, each without what is told of it behind a colon. */
    private static List<String> exampleOf(Path readme) throws IOException {
        List<String> lines = new ArrayList<>();
        boolean isInside = false;
        for (String line : Files.readAllLines(readme)) {
            if (line.startsWith("```")) {
                if (isInside) {
                    return lines;
                }
                isInside = line.equals("```java");
            } else if (isInside) {
                lines.add(line.replaceAll(" +// ", " // ").replaceAll("( // [^:]*):.*", "$1"));
            }
        }
        return lines;
    }
}
