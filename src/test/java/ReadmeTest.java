import java.io.IOException;
import java.nio.charset.StandardCharsets;
import java.nio.file.Files;
import java.nio.file.Path;
import java.util.ArrayList;
import java.util.List;

/** The example of README.md: its calls are made here, and each answer is held against the one that it tells. */
public final class ReadmeTest {
    private static final List<String> told = new ArrayList<>();
    private static int row = 0;

    public static void main(String[] args) throws IOException {
        for (String line : Files.readAllLines(Path.of("README.md"), StandardCharsets.UTF_8)) {
            if (line.startsWith("gate.")) {
                told.add(line);
            }
        }
        example();
        Check.same("rows of the example", row, told.size());
        Check.report();
    }

    /** The next row of the example must be this call, with this answer first behind it. */
    private static void held(String call, String answer) {
        String due = row < told.size() ? told.get(row) : "";
        int comment = due.indexOf("// ");
        boolean whole = comment >= 0;
        Check.same("call of row " + row, call + ";", whole ? due.substring(0, comment).trim() : due);
        Check.same("answer of row " + row, answer, whole ? due.substring(comment + 3).split("[:, ]")[0] : "");
        row++;
    }

    private static void held(String call, long answer) {
        held(call, String.valueOf(answer));
    }

    private static void held(String call, boolean answer) {
        held(call, String.valueOf(answer));
    }

    private static void example() {
        VouchGate gate = new VouchGate();
        held("gate.login(0, 0, 0)", gate.login(0, 0, 0));
        held("gate.vouch(0, 4, 0b000111)", gate.vouch(0, 4, 0b000111));
        held("gate.door(4, 2)", gate.door(4, 2));
        held("gate.door(4, 3)", gate.door(4, 3));
        held("gate.pass(1)", gate.pass(1));
        held("gate.login(4, 44, 0)", gate.login(4, 44, 0));
        held("gate.login(4, 44, 1)", gate.login(4, 44, 1));
        gate.word(4, 500);
        held("gate.word(4, 500)", "the");
        held("gate.vouch(4, 5, 0b111110)", gate.vouch(4, 5, 0b111110));
        held("gate.of(5, 3)", gate.of(5, 3));
        held("gate.chain(5)", gate.chain(5));
        held("gate.share(1, 0b010001, 2)", gate.share(1, 0b010001, 2));
        held("gate.use(1)", gate.use(1));
        held("gate.ending(0)", gate.ending(0));
        held("gate.lose(4, 0)", gate.lose(4, 0));
        held("gate.use(1)", gate.use(1));
        held("gate.taintedAnew(5)", gate.taintedAnew(5));
        held("gate.issue(4)", gate.issue(4));
        held("gate.sign(4, 2)", "'" + gate.sign(4, 2) + "'");
        held("gate.vouch(0, 5, 0b100000)", gate.vouch(0, 5, 0b100000));
        held("gate.door(5, 5)", gate.door(5, 5));
        held("gate.end(5)", gate.end(5));
        held("gate.keyOf(1, 2)", gate.keyOf(1, 2));
    }
}
