import java.io.IOException;
import java.nio.charset.StandardCharsets;
import java.nio.file.Files;
import java.nio.file.Path;
import java.util.IdentityHashMap;
import java.util.LinkedHashMap;
import java.util.Map;

/**
 * Boundary cases, each under the sentence of ../shared/DOC.md that names it. At the end every line "Returns" and
 * "Throws", and every line of an argument, of the promises asked for must have had an answer of its own; where several
 * exceptions can apply, each two of them must have met.
 */
final class Edge {
    static final Class<?> INDEX = IndexOutOfBoundsException.class;
    static final Class<?> ARGUMENT = IllegalArgumentException.class;
    static final Class<?> STATE = IllegalStateException.class;
    private static final Path DOCUMENT = Path.of("../shared/DOC.md");
    private static final String SEVERAL = "If several exceptions apply, the one that is named first is thrown.";

    /** Makes a new registry, always the same way. */
    interface Start {
        Licenceweave make();
    }

    interface Call {
        Object on(Licenceweave x);
    }

    interface Valued {
        Object on(Licenceweave x, int value);
    }

    private final String name;
    /** By promise all that its page says, on one line; 0 is all ahead of the promises. */
    private final Map<Integer, String> pages = new LinkedHashMap<>();
    /** The lines that must have answers, and how many each had; the promise stands ahead. */
    private final Map<String, Integer> answers = new LinkedHashMap<>();
    private final Map<Integer, Integer> throwLines = new LinkedHashMap<>();
    private final Map<Start, String> untouched = new IdentityHashMap<>();
    private String sentence = "";
    private int count;
    private int wrong;

    Edge(String name) {
        this.name = name;
        try {
            read(Files.readString(DOCUMENT, StandardCharsets.UTF_8));
        } catch (IOException e) {
            System.out.println(name + ": without " + DOCUMENT + " no sentence is compared with it");
        }
    }

    private void read(String document) {
        int promise = 0;
        for (String line : document.replace("`", "").split("\n")) {
            if (line.startsWith("## Not promised")) {
                return;
            }
            if (line.startsWith("## Promise ")) {
                promise = Integer.parseInt(line.substring(11, line.indexOf(':')));
            }
            String plain = line.strip().replaceAll("^- ", "");
            pages.merge(promise, plain, (a, b) -> a + " " + b);
            if (promise > 0 && line.matches("(Returns|Throws|-) .*")) {
                answers.put(promise + ": " + plain, 0);
                throwLines.merge(promise, line.startsWith("Throws") ? 1 : 0, Integer::sum);
            }
        }
    }

    /** What follows is about that sentence of that promise (0: of what stands ahead of the promises). */
    void says(int promise, String text) {
        sentence = promise + ": " + text;
        is("it stands in the document", pages.isEmpty() || pages.get(promise).contains(text), true);
        answers.put(sentence, answers.getOrDefault(sentence, 0) - 1);
    }

    /** What follows is about several exceptions of a call that apply at once. */
    void several(int promise) {
        sentence = promise + ": " + SEVERAL;
    }

    void is(String what, Object got, Object due) {
        count++;
        answers.merge(sentence, 1, Integer::sum);
        if (!due.equals(got)) {
            wrong++;
            System.out.println(name + ": " + sentence + "\n    " + what + ": " + got + ", due is " + due);
        }
    }

    /** Several answers, one behind the other, with a blank between two. */
    static String all(Object... answers) {
        StringBuilder text = new StringBuilder();
        for (Object one : answers) {
            text.append(text.length() > 0 ? " " : "").append(one);
        }
        return text.toString();
    }

    /** A call that is let in. */
    void in(Start start, String what, Call call, Object due) {
        is(what, answer(start.make(), call), due);
    }

    /** A call that is refused: it throws just that, and all is as ahead of it, with each STEP BACK. */
    void out(Start start, Class<?> due, String what, Call call) {
        Licenceweave x = start.make();
        is(what, answer(x, call), due);
        Licenceweave y = start.make();
        answer(y, call);
        String same = untouched.computeIfAbsent(start, s -> View.trail(s.make()) + View.probes(s.make()));
        String got = View.trail(x) + View.probes(y);
        is(what + " changes nothing", got.equals(same) ? "" : difference(got, same), "");
    }

    /** What a call tells, or the class of what it throws. */
    static Object answer(Licenceweave x, Call call) {
        try {
            return call.on(x);
        } catch (RuntimeException e) {
            return e.getClass();
        }
    }

    /** The last values that are let in on both sides, with their answers, and the first ones that are not. */
    void range(Start start, Class<?> due, String what, int least, int most, Valued call, Object first, Object last) {
        in(start, what + " " + least, x -> call.on(x, least), first);
        in(start, what + " " + most, x -> call.on(x, most), last);
        for (int value : new int[] {least - 1, most + 1, Integer.MIN_VALUE, Integer.MAX_VALUE}) {
            out(start, due, what + " " + value, x -> call.on(x, value));
        }
    }

    private static String difference(String got, String due) {
        String[] lines = got.split("\n");
        String[] others = due.split("\n");
        for (int k = 0; k < lines.length && k < others.length; k++) {
            if (!lines[k].equals(others[k])) {
                return lines[k] + " instead of " + others[k];
            }
        }
        return lines.length + " lines instead of " + others.length;
    }

    void end(int... promises) {
        sentence = "each sentence has answers of its own";
        for (int promise : promises) {
            for (String line : answers.keySet().toArray(new String[0])) {
                if (line.startsWith(promise + ": ")) {
                    is(line, answers.get(line) > 0, true);
                }
            }
            int lines = throwLines.getOrDefault(promise, 0);
            int pairs = answers.getOrDefault(promise + ": " + SEVERAL, 0);
            is("exceptions that meet in promise " + promise, pairs >= lines * (lines - 1), true);
        }
        System.out.println(name + ": " + count + " answers, " + wrong + " wrong");
        if (wrong > 0) {
            System.exit(1);
        }
    }
}
