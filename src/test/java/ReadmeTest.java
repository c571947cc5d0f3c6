import java.io.IOException;
import java.nio.file.Files;
import java.nio.file.Path;
import java.util.List;

/** The example in README.md: its calls, line by line, answer what stands behind them there. */
public final class ReadmeTest {
    private static List<String> lines;
    private static int at;

    private ReadmeTest() {
    }

    public static void main(String[] args) throws IOException {
        lines = Files.readAllLines(Path.of("README.md"));
        at = lines.indexOf("```java") + 1;
        next("VerifiedCode x = new VerifiedCode();");
        VerifiedCode x = new VerifiedCode();
        next("// 202, no constants, one method:");
        next("// 6 bytes of code (21 0, 21 1, 96, 172), no frames.");
        next("x.type(0xCA_00_01_02_01_01_01_02L, 8);");
        TestKit.due("first type", x.type(0xCA_00_01_02_01_01_01_02L, 8), 8);
        next("x.type(0x02_06_15_00_15_01_60_ACL, 8);");
        TestKit.due("second type", x.type(0x02_06_15_00_15_01_60_ACL, 8), 16);
        next("x.type(0x00, 1);");
        TestKit.due("third type", x.type(0x00, 1), 17);
        next("x.read();             // NONE (-1)");
        TestKit.due("read", x.read(), VerifiedCode.NONE);
        next("x.check(0);           // NONE");
        TestKit.due("check", x.check(0), VerifiedCode.NONE);
        next("x.run(0, 7, 8, 0);    // DONE (0)");
        TestKit.due("run", x.run(0, 7, 8, 0), VerifiedCode.DONE);
        next("x.result();           // 15");
        TestKit.due("result", x.result(), 15);
        next("x.steps();            // 4");
        TestKit.due("steps", x.steps(), 4);
        next("```");
        TestKit.end("ReadmeTest");
    }

    private static void next(String begin) {
        String line = at < lines.size() ? lines.get(at) : "";
        at++;
        TestKit.due("README.md, line " + at + ": " + line, line.startsWith(begin) ? 1 : 0, 1);
    }
}
