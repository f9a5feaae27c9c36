import java.util.ArrayList;
import java.util.List;
import java.util.function.IntFunction;

/**
 * A sentence of the document, told as calls on a new house, a line each:
 * <pre>
 * // a comment
 * addDevice()
 * addDevice() = 1
 * addPerson(3) throws IllegalArgumentException
 * </pre>
 * A line without an answer stands for a call that throws nothing. Behind each call that throws, the house must
 * answer all as it does without this call.
 */
final class Story {
    static final String INDEX = "IndexOutOfBoundsException";
    static final String ARGUMENT = "IllegalArgumentException";
    static final String UNSUPPORTED = "UnsupportedOperationException";
    static final String STATE = "IllegalStateException";
    static final String NONE_SUCH = "NoSuchElementException";
    static final String ARITHMETIC = "ArithmeticException";

    private static final int MOST_CALLS = 512;
    private static final String THROWS = "throws ";

    private static int wrong = 0;
    private static int told = 0;

    private final String sentence;
    private final Keyceremony house = new Keyceremony();
    /** The calls so far that threw nothing. */
    private final List<Call> done = new ArrayList<>();
    private String untouched = null;

    private Story(String sentence) {
        this.sentence = sentence;
    }

    static void tell(String sentence, String... parts) {
        told++;
        Story story = new Story(sentence);
        int calls = 0;
        for (String part : parts) {
            for (String line : part.split("\n")) {
                if (!line.isBlank() && !line.strip().startsWith("//")) {
                    story.line(line.strip());
                    calls++;
                }
            }
        }
        due(sentence + ": it has calls, at most 512", calls >= 1 && calls <= MOST_CALLS, true);
    }

    private void line(String line) {
        int behind = line.indexOf(')') + 1;
        Call call = new Call(line.substring(0, behind));
        String answer = call.on(house);
        String due = line.substring(behind).strip();
        if (due.isEmpty()) {
            due(sentence + ": " + call.text + " throws", answer.startsWith(THROWS) ? answer : "nothing", "nothing");
        } else {
            due(sentence + ": " + call.text, answer, due.startsWith("= ") ? due.substring(2) : due);
        }
        if (answer.startsWith(THROWS)) {
            looksUntouched(call);
        } else {
            done.add(call);
            untouched = null;
        }
    }

    private void looksUntouched(Call call) {
        if (untouched == null) {
            untouched = Probe.behind(done, null);
        }
        String touched = Probe.behind(done, call);
        due(sentence + ": what " + call.text + " changed", difference(touched, untouched), "nothing");
    }

    private static String difference(String touched, String untouched) {
        if (touched.equals(untouched)) {
            return "nothing";
        }
        String[] now = touched.split("\n");
        String[] before = untouched.split("\n");
        for (int i = 0; i < now.length && i < before.length; i++) {
            if (!now[i].equals(before[i])) {
                return now[i] + " instead of " + before[i];
            }
        }
        return "how much is answered";
    }

    /** Lines of calls that all throw the same exception. */
    static String each(String exception, String... calls) {
        StringBuilder lines = new StringBuilder();
        for (String call : calls) {
            lines.append(call).append(" throws ").append(exception).append('\n');
        }
        return lines.toString();
    }

    /** A line for each number. */
    static String lines(int first, int last, IntFunction<String> line) {
        StringBuilder lines = new StringBuilder();
        for (int number = first; number <= last; number++) {
            lines.append(line.apply(number)).append('\n');
        }
        return lines.toString();
    }

    static void due(String call, Object got, Object want) {
        if (!want.equals(got)) {
            wrong++;
            System.out.println(call + ": " + got + ", due is " + want);
        }
    }

    static void end(String test) {
        if (wrong != 0) {
            System.out.println(test + ": " + wrong + " answers are not as due");
            System.exit(1);
        }
        System.out.println(test + ": all answers are as due" + (told == 0 ? "" : ", in " + told + " stories"));
    }
}
