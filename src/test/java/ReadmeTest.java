import java.io.IOException;
import java.nio.file.Files;
import java.nio.file.Path;
import java.util.List;

/** The example that README.md tells: its lines stand there as they are here, and answer so. */
public final class ReadmeTest {
    public static void main(String[] args) throws IOException {
        PatternRunner runner = new PatternRunner();
        Check.is("type (a+)(b*)", 8, runner.type(0x29_2A_62_28_29_2B_61_28L, 8));
        Check.is("pattern", 2, runner.pattern(0));
        Check.is("type xaabb", 5, runner.type(0x62_62_61_61_78L, 5));
        Check.is("text", 5, runner.text());
        Check.is("find", 1, runner.find());
        Check.is("to(0)", 5, runner.to(0));
        Check.is("from(2)", 3, runner.from(2));
        Check.is("type $2$1", 4, runner.type(0x31_24_32_24L, 4));
        Check.is("replace", 1, runner.replace());
        Check.is("result(1)", 'b', runner.result(1));
        Check.isText("the result", "xbbaa", Check.result(runner));
        tellsTheSame();
        Check.end();
    }

    private static void tellsTheSame() throws IOException {
        List<String> lines = Files.readAllLines(Path.of("README.md"));
        tells(lines, "runner.type(0x29_2A_62_28_29_2B_61_28L, 8);", "(a+)(b*)");
        tells(lines, "runner.pattern(0);", "2,");
        tells(lines, "runner.type(0x62_62_61_61_78L, 5);", "xaabb");
        tells(lines, "runner.text();", "5,");
        tells(lines, "runner.find();", "1,");
        tells(lines, "runner.to(0);", "5,");
        tells(lines, "runner.from(2);", "3,");
        tells(lines, "runner.type(0x31_24_32_24L, 4);", "$2$1");
        tells(lines, "runner.replace();", "1,");
        tells(lines, "runner.result(1);", "'b', of the result xbbaa");
    }

    private static void tells(List<String> lines, String call, String answer) {
        boolean told = false;
        for (String line : lines) {
            told |= line.startsWith(call) && line.contains("// " + answer);
        }
        Check.isTrue("README.md tells " + call + " // " + answer, told);
    }
}
