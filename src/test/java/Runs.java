import java.lang.reflect.InvocationTargetException;
import java.lang.reflect.Method;
import java.lang.reflect.Modifier;
import java.util.ArrayList;
import java.util.Arrays;
import java.util.HashMap;
import java.util.List;
import java.util.Map;
import java.util.TreeSet;
import java.util.function.IntFunction;
import java.util.regex.Matcher;
import java.util.regex.Pattern;

/**
 * Runs of calls told as text, "pause(0, 5000) = 5003; helperOf(0, 0) = 3": each is made on a new room and must
 * answer what is told; one without an answer must only be taken. Around every call that is refused all that can
 * be asked is asked, with it and without it: nothing may differ but the count of its refusals, neither at once
 * nor as ticks pass. Runs are made anew for the asking, since a room is good for 512 calls only.
 */
final class Runs {
    private static final int CALLS_OF_A_ROOM = 512;
    private static final Pattern CALL = Pattern.compile("(\\w+)\\(([^)]*)\\)(?:\\s*=\\s*(-?\\d+))?");
    private static final Map<String, Method> FACE = new HashMap<>();

    static {
        for (Method m : CallRoom.class.getDeclaredMethods()) {
            if (Modifier.isPublic(m.getModifiers())) FACE.put(m.getName(), m);
        }
    }

    private final TreeSet<Integer> promises = new TreeSet<>();
    private int wrong;
    private int sentences;
    private int refusals;

    /** One call with the answer that is due, or without. */
    private static final class Step {
        final String text;
        final Method method;
        final Object[] arguments;
        final Integer due;

        Step(String text) {
            Matcher m = CALL.matcher(text.trim());
            if (!m.matches()) throw new IllegalArgumentException("no call: " + text);
            this.text = text.trim();
            method = FACE.get(m.group(1));
            arguments = m.group(2).isBlank() ? new Object[0]
                : Arrays.stream(m.group(2).split(",")).map(a -> Integer.parseInt(a.trim())).toArray();
            due = m.group(3) == null ? null : Integer.valueOf(m.group(3));
            if (method == null || method.getParameterCount() != arguments.length) {
                throw new IllegalArgumentException("not of the face: " + text);
            }
        }

        int on(CallRoom room) {
            try {
                return (Integer) method.invoke(room, arguments);
            } catch (InvocationTargetException e) {
                throw new IllegalStateException(text + " throws " + e.getCause(), e);
            } catch (IllegalAccessException e) {
                throw new IllegalStateException(e);
            }
        }

        boolean isRight(int got) {
            return due == null ? got >= 0 : got == due;
        }

        boolean isRefused() {
            return due != null && (due == -1 || due == -2 || due == -4 || due == -6);
        }
    }

    /** The texts for 0 .. n - 1, one after the other. */
    static String each(int n, IntFunction<String> text) {
        StringBuilder all = new StringBuilder();
        for (int i = 0; i < n; i++) {
            all.append(text.apply(i)).append(';');
        }
        return all.toString();
    }

    /** A sentence of the document, with the number of its promise ahead (0: of the terms), and a run that shows it. */
    void run(String sentence, String... texts) {
        sentences++;
        promises.add(Integer.parseInt(sentence.substring(0, sentence.indexOf(' '))));
        List<Step> steps = stepsOf(texts);
        if (steps.size() >= CALLS_OF_A_ROOM) throw new IllegalArgumentException("too long a run: " + sentence);
        CallRoom room = new CallRoom();
        for (int i = 0; i < steps.size(); i++) {
            int got = steps.get(i).on(room);
            if (!steps.get(i).isRight(got)) {
                fault(sentence, "call " + (i + 1) + ", " + steps.get(i).text + ", answered " + got);
                return;
            }
        }
        for (int i = 0; i < steps.size(); i++) {
            if (steps.get(i).isRefused()) changesNothing(sentence, steps.subList(0, i), steps.get(i));
        }
        refusalsAreCounted(sentence, steps);
    }

    private static List<Step> stepsOf(String... texts) {
        List<Step> steps = new ArrayList<>();
        for (String text : texts) {
            for (String call : text.split(";")) {
                if (!call.isBlank()) steps.add(new Step(call));
            }
        }
        return steps;
    }

    private static CallRoom made(List<Step> steps) {
        CallRoom room = new CallRoom();
        for (Step step : steps) {
            step.on(room);
        }
        return room;
    }

    private void refusalsAreCounted(String sentence, List<Step> steps) {
        for (int code = -1; code >= -6; code--) {
            int of = code;
            int due = (int) steps.stream().filter(s -> s.isRefused() && s.due == of).count();
            int got = made(steps).count(10 - code);
            if (got != due) fault(sentence, "refusals " + code + ": " + got + ", due is " + due);
        }
    }

    private void changesNothing(String sentence, List<Step> before, Step refused) {
        refusals++;
        int tick = made(before).count(0);
        asIfNotMade(sentence, before, refused, List.of());
        for (int n : new int[] {1, 300}) {
            if (tick + n <= 20000) asIfNotMade(sentence, before, refused, stepsOf("ticks(" + n + ")"));
        }
    }

    private void asIfNotMade(String sentence, List<Step> before, Step refused, List<Step> then) {
        List<Step> without = new ArrayList<>(before);
        without.addAll(then);
        List<Step> with = new ArrayList<>(before);
        with.add(refused);
        with.addAll(then);
        List<Step> questions = allQuestions(made(before));
        int atOnce = CALLS_OF_A_ROOM - with.size();
        if (atOnce < 20) throw new IllegalArgumentException("too long a run: " + sentence);
        for (int from = 0; from < questions.size(); from += atOnce) {
            CallRoom one = made(without);
            CallRoom other = made(with);
            for (Step question : questions.subList(from, Math.min(questions.size(), from + atOnce))) {
                int due = question.on(one) + (question.text.equals("count(" + (10 - refused.due) + ")") ? 1 : 0);
                int got = question.on(other);
                if (got != due) {
                    fault(sentence, refused.text + " changed " + question.text + ": " + got + ", due is " + due);
                    return;
                }
            }
        }
    }

    private static List<Step> allQuestions(CallRoom room) {
        StringBuilder all = new StringBuilder();
        all.append(each(18, what -> "count(" + what + ")"));
        all.append(each(room.count(1), h -> each(14, what -> "helperOf(" + h + "," + what + ")")));
        all.append(each(room.count(2), c -> each(10, what -> "callOf(" + c + "," + what + ")")));
        all.append(each(room.count(2), c -> "who(" + c + "); why(" + c + "); wait(" + c + ")"));
        all.append("within(0); within(1); within(7); within(50); within(20000);");
        all.append(each(16, q -> "begins(" + q + ")"));
        // these set what they tell, so they come last
        all.append(each(16, q -> "want(" + q + ", 0)"));
        all.append("rule(0); prefer(0)");
        return stepsOf(all.toString());
    }

    private void fault(String sentence, String what) {
        wrong++;
        System.out.println(sentence + ": " + what);
    }

    /** Tells what was found, and ends the program with 1 if anything was wrong or a promise has no run. */
    void end(int firstPromise, int lastPromise) {
        for (int p = firstPromise; p <= lastPromise; p++) {
            if (!promises.contains(p)) fault("promise " + p, "has no run");
        }
        System.out.println(wrong == 0
            ? sentences + " sentences hold, " + refusals + " refused calls changed nothing"
            : wrong + " things are not as due");
        if (wrong != 0) System.exit(1);
    }
}
