import java.io.IOException;
import java.lang.reflect.Method;
import java.nio.file.Files;
import java.nio.file.Path;
import java.util.ArrayList;
import java.util.HashMap;
import java.util.List;
import java.util.Map;
import java.util.regex.Matcher;
import java.util.regex.Pattern;

/** What README.md tells of the class: its example, its tables of forms, of answers and of calls. */
public final class ReadmeTest {
    private static final Map<String, Long> NAMES = Map.of("UNKNOWN", (long) LoanCases.UNKNOWN,
            "OUTSIDE", (long) LoanCases.OUTSIDE, "TURN", (long) LoanCases.TURN,
            "FULL", (long) LoanCases.FULL, "NONE", (long) LoanCases.NONE);
    private static final int LAST_FORM = 18, LAST_KIND = 19, KIND = -31;

    private static final Check CHECK = new Check("ReadmeTest");

    public static void main(String[] args) throws IOException {
        List<String> page = Files.readAllLines(Path.of("README.md"));
        example(page);
        answers(page);
        forms(page);
        calls(page);
        CHECK.end();
    }

    private static void example(List<String> page) {
        Pattern line = Pattern.compile("(?:int (\\w+) = )?store\\.(.+\\));\\s+// (-?\\w+).*");
        LoanCases store = new LoanCases();
        Map<String, Long> variables = new HashMap<>();
        int told = 0;
        for (String text : page) {
            Matcher m = line.matcher(text);
            if (!m.matches()) {
                continue;
            }
            String call = m.group(2);
            for (Map.Entry<String, Long> v : variables.entrySet()) {
                call = call.replaceAll("(?<=[(, ])" + v.getKey() + "(?=[,)])", v.getValue().toString());
            }
            long got = Story.answer(store, call);
            CHECK.due("the example's " + text, got, number(m.group(3)));
            if (m.group(1) != null) {
                variables.put(m.group(1), got);
            }
            told++;
        }
        CHECK.due("the example's calls", told, 12);
    }

    private static long number(String word) {
        return NAMES.containsKey(word) ? NAMES.get(word) : Long.parseLong(word);
    }

    private static void answers(List<String> page) {
        int told = 0;
        for (String[] cells : rows(page, "| answer |")) {
            String name = cells[1].replace("`", "");
            if (NAMES.containsKey(name)) {
                CHECK.due(name, Long.parseLong(cells[0]), NAMES.get(name));
                told++;
            }
        }
        CHECK.due("names in the table of answers", told, NAMES.size());
    }

    private static void forms(List<String> page) {
        List<String[]> table = rows(page, "| number |");
        CHECK.due("rows in the table of forms", table.size(), 21);
        for (int form = 0; form <= LAST_FORM && form < table.size(); form++) {
            String[] cells = table.get(form);
            CHECK.due("number of a form", Long.parseLong(cells[0]), form);
            LoanCases store = oneOfEach();
            for (int kind = 0; kind <= LAST_KIND; kind++) {
                boolean listed = List.of(cells[2].split(", ")).contains(String.valueOf(kind));
                CHECK.due("is(" + form + ", " + kind + ")", store.is(form, kind), listed ? 1 : 0);
            }
            Matcher part = Pattern.compile("what IS (\\d+), or NOTHING").matcher(cells.length > 3 ? cells[3] : "");
            CHECK.due("FORM " + form + " has places for THINGS", part.matches() ? 1 : 0, form >= 9 && form <= 17 ? 1 : 0);
            if (part.matches()) {
                hung(store, form, Integer.parseInt(part.group(1)));
            }
        }
    }

    private static void hung(LoanCases store, int form, int partKind) {
        for (int other = 0; other <= LAST_FORM; other++) {
            long due = store.is(other, partKind) == 1 ? 1 : KIND;
            CHECK.due("hang(" + form + ", " + form + ", 0, " + other + ")", store.hang(form, form, 0, other), due);
        }
        CHECK.due("NONE hung in " + form, store.hang(form, form, 0, LoanCases.NONE), 1);
    }

    /** THING n has FORM n. */
    private static LoanCases oneOfEach() {
        LoanCases store = new LoanCases();
        for (int form = 0; form <= 4; form++) {
            store.thing(form, 1000);
        }
        for (int form = 5; form <= 17; form++) {
            store.row(form, 1);
        }
        store.makeCase();
        return store;
    }

    private static void calls(List<String> page) {
        List<String> told = new ArrayList<>();
        for (String[] cells : rows(page, "| call |")) {
            String call = cells[0].replace("`", "");
            String inner = call.substring(call.indexOf('(') + 1, call.length() - 1);
            told.add(call.substring(0, call.indexOf('(')) + " " + (inner.isEmpty() ? 0 : inner.split(", ").length));
        }
        int shown = 0;
        for (Method m : LoanCases.class.getMethods()) {
            if (m.getDeclaringClass() == LoanCases.class) {
                String call = m.getName() + " " + m.getParameterCount();
                CHECK.due("the table of calls has " + call, told.contains(call) ? 1 : 0, 1);
                shown++;
            }
        }
        CHECK.due("rows in the table of calls", told.size(), shown);
    }

    /** The cells of a table's rows, behind its head and the line under it. */
    private static List<String[]> rows(List<String> page, String head) {
        List<String[]> found = new ArrayList<>();
        boolean within = false;
        for (String line : page) {
            if (line.startsWith(head)) {
                within = true;
            } else if (!line.startsWith("|")) {
                within = false;
            } else if (within && !line.startsWith("|---")) {
                found.add(line.substring(1).trim().split("\\s*\\|\\s*"));
            }
        }
        return found;
    }
}
