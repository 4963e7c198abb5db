import java.lang.reflect.Method;
import java.lang.reflect.Modifier;
import java.nio.file.Files;
import java.nio.file.Path;

/** README.md's example with the answers that it tells, and that its table has every call. */
public final class UsageTests extends TextTest {
    public static void main(String[] args) throws Exception {
        example();
        everyCallIsTold(Files.readString(Path.of("README.md")));
        end();
    }

    private static void example() {
        JobText x = new JobText();
        load(x, "//P PROC A=1\n//S EXEC PGM=&A\n//D DD K=V\n// PEND\n");
        due("read() of a procedure", x.read(), 4);
        due("procedures in the library", x.count(1), 1);
        load(x, "//J JOB\n// EXEC P,A=RUN\n//S.D DD K=W\n");
        due("read() of a job", x.read(), 3);
        due("a job at hand", x.count(6), 1);
        due("expand()", x.expand(), 4);
        due("the lines", listing(x), "1/1/0/0/0 |2/2/0/2/0 P,A=RUN|2/2/1/1/0 PGM=RUN|3/3/1/1/1 K=W");
        due("letter(2, 4)", x.letter(2, 4), (int) 'R');
        due("at(3, 4)", x.at(3, 4), 1);
        load(x, "//J JOB\n//S EXEX PGM=A\n");
        due("read() of a fault", x.read(), -2);
        due("no text", x.count(2), 0);
        due("no job at hand", x.count(6), 0);
        due("the fault", faultList(x), "2:5:2:2");
    }

    private static void everyCallIsTold(String readme) {
        for (Method m : JobText.class.getDeclaredMethods()) {
            if (Modifier.isPublic(m.getModifiers())) {
                due("README.md's table has " + m.getName(), readme.contains("| `" + m.getName() + "("), true);
            }
        }
    }
}
