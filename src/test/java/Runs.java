import java.util.ArrayList;
import java.util.List;
import java.util.Map;
import java.util.Set;
import java.util.TreeMap;
import java.util.TreeSet;
import java.util.regex.Matcher;
import java.util.regex.Pattern;

/**
 * Runs of calls on new objects, each with the sentence of the document that it holds. A run is told by rows:
 * <pre>
 *   door(0, 0, false, {0, 2}, 1) = 0, 1                      a call for each of several numbers, and the answers
 *   8 * door(0, 0, false, 0, 1) = 0..7                       a call made eight times
 *   line(0) = "osa0-1"                                       the line, and its length
 *   shut(0) ! UnsupportedOperationException 5 0              what is thrown, and the refusal that is kept
 *   append "shut0" = 5                                       by four characters at a time
 *   read "shut0" "shut1" = 1                                 append and read, for each of the texts
 *   read "shut" ! IllegalArgumentException at 4              and the error position
 *   read "shut0;shut1" ! UnsupportedOperationException order 1 refusal 5 0
 * </pre>
 * LEAST and MOST are the bounds of int; what stands behind two blanks and "//" is a comment.
 *
 * Behind every call the whole object is looked at, with another one on which that call was not made: a call that
 * throws or only asks must have changed nothing but what its description says, the changes that can be undone, the
 * keys, the snapshot and the characters in the buffer included; and what a change has done, undo must take back.
 */
final class Runs {
    private static final Set<String> CHANGES =
            Set.of("door", "threshold", "govern", "set", "tellEnding", "key", "knock", "shut", "free", "read");
    private static final Set<String> OTHERS = Set.of("clear", "append", "undo", "snapshot", "restore");
    private static final Set<String> WRITING = Set.of("line", "endings");

    private static final Pattern ROW = Pattern.compile(
            "(?:(\\d+) \\* )?(\\w+)(?:\\(([^)]*?(?:'.')?)\\)| (\".*\")) ([=!]) (.*)");
    private static final Pattern QUOTED = Pattern.compile("\"([^\"]*)\"");
    private static final Pattern THROWN = Pattern.compile(
            "(\\w+)(?: (-?\\d+) (-?\\d+))?(?: at (\\d+))?(?: order (\\d+))?(?: refusal (-?\\d+) (-?\\d+))?");

    private record Step(String name, Object[] arguments, String text, String due, String refusal, String at,
            String order) {
        boolean isThrown() {
            return due.startsWith("!");
        }

        @Override
        public String toString() {
            StringBuilder told = new StringBuilder(name);
            if (text != null) {
                return told.append(" \"").append(text).append('"').toString();
            }
            for (int i = 0; i < arguments.length; i++) {
                told.append(i == 0 ? "(" : ", ").append(arguments[i]);
            }
            return told.append(arguments.length == 0 ? "()" : ")").toString();
        }
    }

    /** What is asked of an object behind a run, beside its parts as they are. */
    private interface View {
        Map<String, String> of(Asked x);
    }

    private final String title;
    private final List<Step> steps;
    private Asked asked = new Asked();

    private Runs(String title, List<Step> steps) {
        this.title = title;
        this.steps = steps;
    }

    static void holds(String section, String sentence, String rows) {
        Sentences.quote(section, sentence);
        Runs run = new Runs(section + ", \"" + sentence + "\"", parse(rows));
        for (int i = 0; i < run.steps.size(); i++) {
            run.answer(i);
            run.lookBehind(i);
        }
    }

    /** For runs that are too long to be looked at behind every call. */
    static void holdsAtLast(String section, String sentence, int calls, String rows) {
        Sentences.quote(section, sentence);
        Runs run = new Runs(section + ", \"" + sentence + "\"", parse(rows));
        for (int i = 0; i < run.steps.size(); i++) {
            run.answer(i);
        }
        Check.due(run.title + ": calls", run.asked.calls(), calls);
    }

    // The rows.

    private static List<Step> parse(String rows) {
        List<Step> steps = new ArrayList<>();
        for (String line : rows.split("\n")) {
            String row = line.replaceAll("(?:^|  )//.*", "").strip();
            if (!row.isEmpty()) {
                Matcher matcher = ROW.matcher(row);
                if (!matcher.matches()) {
                    throw new AssertionError("no row: " + row);
                }
                addSteps(steps, matcher);
            }
        }
        return steps;
    }

    private static void addSteps(List<Step> steps, Matcher row) {
        List<Step> calls = new ArrayList<>();
        if (row.group(4) != null) {
            Matcher text = QUOTED.matcher(row.group(4));
            while (text.find()) {
                calls.add(new Step(row.group(2), new Object[0], text.group(1), "", null, null, null));
            }
        } else {
            Class<?>[] types = Asked.parametersOf(row.group(2));
            List<List<Object>> told = arguments(types, row.group(3));
            expand(told, new Object[types.length], 0, row.group(2), calls);
        }
        int times = row.group(1) == null ? 1 : Integer.parseInt(row.group(1));
        List<String> answers = row.group(5).equals("!") ? List.of() : answers(row.group(6));
        int all = times * calls.size();
        if (answers.size() > 1 && answers.size() != all) {
            throw new AssertionError(all + " calls, but " + answers.size() + " answers: " + row.group());
        }
        for (int i = 0; i < all; i++) {
            Step call = calls.get(i % calls.size());
            steps.add(answers.isEmpty() ? thrown(call, row.group(6))
                    : new Step(call.name, call.arguments, call.text, answers.get(i % answers.size()), null, null, null));
        }
    }

    private static Step thrown(Step call, String told) {
        Matcher matcher = THROWN.matcher(told);
        if (!matcher.matches()) {
            throw new AssertionError("nothing is thrown so: " + told);
        }
        int reason = matcher.group(2) != null ? 2 : 6;
        String refusal = matcher.group(reason) == null ? null : matcher.group(reason) + " " + matcher.group(reason + 1);
        return new Step(call.name, call.arguments, call.text, "!" + matcher.group(1), refusal, matcher.group(4),
                matcher.group(5));
    }

    private static List<List<Object>> arguments(Class<?>[] types, String told) {
        List<List<Object>> arguments = new ArrayList<>();
        Matcher matcher = Pattern.compile("\\{[^}]*\\}(?!')|'.'|[^,\\s]+").matcher(told);
        while (matcher.find()) {
            List<Object> values = new ArrayList<>();
            String group = matcher.group();
            Class<?> type = types[arguments.size()];
            if (group.startsWith("{")) {
                for (String one : group.substring(1, group.length() - 1).split(",\\s*")) {
                    addValues(values, type, one);
                }
            } else {
                addValues(values, type, group);
            }
            arguments.add(values);
        }
        if (arguments.size() != types.length) {
            throw new AssertionError(types.length + " arguments are due: " + told);
        }
        return arguments;
    }

    private static void addValues(List<Object> values, Class<?> type, String told) {
        if (type == boolean.class) {
            values.add(told.equals("true"));
        } else if (type == char.class) {
            values.add(told.startsWith("'") ? told.charAt(1) : (char) Integer.parseInt(told));
        } else if (told.contains("..")) {
            for (int i = number(told.split("\\.\\.")[0]); i <= number(told.split("\\.\\.")[1]); i++) {
                values.add(i);
            }
        } else {
            values.add(number(told));
        }
    }

    private static int number(String told) {
        switch (told) {
            case "LEAST": return Integer.MIN_VALUE;
            case "MOST": return Integer.MAX_VALUE;
            default: return told.startsWith("0x") ? Integer.parseUnsignedInt(told.substring(2), 16) : Integer.parseInt(told);
        }
    }

    private static void expand(List<List<Object>> told, Object[] taken, int index, String name, List<Step> calls) {
        if (index == taken.length) {
            calls.add(new Step(name, taken.clone(), null, "", null, null, null));
            return;
        }
        for (Object value : told.get(index)) {
            taken[index] = value;
            expand(told, taken, index + 1, name, calls);
        }
    }

    private static List<String> answers(String told) {
        List<String> answers = new ArrayList<>();
        if (told.startsWith("\"")) {
            answers.add(told);
            return answers;
        }
        for (String one : told.split(",\\s*")) {
            if (one.matches("-?\\d+\\.\\.-?\\d+")) {
                int first = Integer.parseInt(one.split("\\.\\.")[0]);
                int last = Integer.parseInt(one.split("\\.\\.")[1]);
                for (int i = first; first <= last ? i <= last : i >= last; i += first <= last ? 1 : -1) {
                    answers.add(String.valueOf(i));
                }
            } else {
                answers.add(one.startsWith("'") ? one.substring(1, 2) : one);
            }
        }
        return answers;
    }

    // The calls.

    private static String make(Step step, Asked x) {
        if (step.text != null) {
            String answer = x.appendAll(step.text);
            return step.name.equals("read") ? x.ask("read") : answer;
        }
        return x.ask(step.name, step.arguments);
    }

    private void answer(int index) {
        Step step = steps.get(index);
        String answer = make(step, asked);
        String told = title + ", row " + index + ": " + step;
        if (step.due.startsWith("\"")) {
            Check.due(told + ": the line", '"' + asked.line() + '"', step.due);
            Check.due(told, answer, String.valueOf(step.due.length() - 2));
        } else {
            Check.due(told, answer, step.due);
        }
        if (step.refusal != null) {
            Check.due(told + ": refusal", asked.ask("refusal", false) + " " + asked.ask("refusal", true), step.refusal);
        }
        if (step.at != null) {
            Check.due(told + ": errorPosition", asked.ask("errorPosition"), step.at);
        }
        if (step.order != null) {
            Check.due(told + ": refusedItem", asked.ask("refusedItem"), step.order);
        }
        if (!step.name.equals("read") && step.due.equals("!UnsupportedOperationException") && step.refusal == null) {
            throw new AssertionError("a refusal is told with its reason and its detail: " + told);
        }
    }

    private Asked replay(int length) {
        Asked x = new Asked();
        for (int i = 0; i < length; i++) {
            make(steps.get(i), x);
        }
        return x;
    }

    // What stands behind a call.

    private void lookBehind(int index) {
        Step step = steps.get(index);
        boolean isChange = CHANGES.contains(step.name);
        if (step.isThrown() || !isChange && !OTHERS.contains(step.name)) {
            Set<String> open = openParts(step);
            leavesAlone(index, "as it is", x -> x.parts(), open);
            leavesAlone(index, "the keys", x -> x.keys(), open);
            int changes = Integer.parseInt(replay(index).ask("account", 12));
            for (int undone = 1; undone <= changes; undone++) {
                int times = undone;
                leavesAlone(index, "undone " + times, x -> undone(x, times), open);
            }
            leavesAlone(index, "restored", x -> restored(x), open);
            if (!step.name.equals("read")) {
                leavesAlone(index, "read", x -> wasRead(x), open);
            } else {
                Check.due(toldBehind(index) + ": the buffer", replay(index + 1).ask("account", 11), "0");
            }
        } else if (isChange) {
            undoTakesBack(index);
        }
    }

    private static Set<String> openParts(Step step) {
        Set<String> open = new TreeSet<>();
        if (step.refusal != null) {
            open.add("refusal");
        }
        if (step.name.equals("read")) {
            open.add("buffer");
            open.add(step.at != null ? "errorPosition" : "refusedItem");
        }
        if (WRITING.contains(step.name) && !step.isThrown()) {
            open.add("line");
        }
        return open;
    }

    private String toldBehind(int index) {
        return title + ", behind row " + index + ": " + steps.get(index);
    }

    private void leavesAlone(int index, String view, View looked, Set<String> open) {
        Map<String, String> before = new TreeMap<>(looked.of(replay(index)));
        Map<String, String> after = new TreeMap<>(looked.of(replay(index + 1)));
        before.keySet().removeAll(open);
        after.keySet().removeAll(open);
        Check.due(toldBehind(index) + ": the object, " + view, after, before);
    }

    private static Map<String, String> undone(Asked x, int times) {
        for (int i = 0; i < times; i++) {
            x.ask("undo");
        }
        return x.parts();
    }

    private static Map<String, String> restored(Asked x) {
        String answer = x.ask("restore");
        Map<String, String> parts = x.parts();
        parts.put("restore", answer);
        return parts;
    }

    private static Map<String, String> wasRead(Asked x) {
        String answer = x.ask("read");
        Map<String, String> parts = x.parts();
        parts.put("read", answer);
        return parts;
    }

    private void undoTakesBack(int index) {
        Map<String, String> before = new TreeMap<>(replay(index).parts());
        Asked x = replay(index + 1);
        int changes = Integer.parseInt(before.remove("changes"));
        Check.due(toldBehind(index) + ": changes", x.ask("account", 12), String.valueOf(Math.min(8, changes + 1)));
        Check.due(toldBehind(index) + ": undo", x.ask("undo"), String.valueOf(Math.min(7, changes)));
        Map<String, String> after = new TreeMap<>(x.parts());
        after.remove("changes");
        if (steps.get(index).name.equals("read")) {
            before.remove("buffer");
            after.remove("buffer");
        }
        Check.due(toldBehind(index) + ": the object then", after, before);
    }
}
