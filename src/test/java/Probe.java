import java.lang.reflect.InvocationTargetException;
import java.lang.reflect.Method;
import java.lang.reflect.Modifier;
import java.util.Arrays;
import java.util.EnumSet;
import java.util.LinkedHashMap;
import java.util.Map;
import java.util.NoSuchElementException;
import java.util.Set;

/** An object under test: makes calls by their names, holds the answers against those that are due, and counts the calls. */
final class Probe {
    /** What an object can be asked for, apart. */
    enum Part { STATE, BUFFER, ERROR_POSITION, REFUSAL, LINE }

    private static final int CALLS = 512;
    private static final Map<String, Method> FACE = face();

    private final NapkinSyntax object = new NapkinSyntax();
    private int calls = 0;

    /** The names of the calls of the face. */
    static Set<String> names() {
        return FACE.keySet();
    }

    private static Map<String, Method> face() {
        Map<String, Method> face = new LinkedHashMap<>();
        for (Method method : NapkinSyntax.class.getDeclaredMethods()) {
            if (Modifier.isPublic(method.getModifiers())) {
                face.put(method.getName(), method);
            }
        }
        return face;
    }

    /** Numbers that are not from low to high: the first one on both sides, some behind, and the farthest ones. */
    static int[] outside(int low, int high) {
        return new int[] {
            low - 1, high + 1, low - 2, high + 2, high + 256, high + 65536, Integer.MIN_VALUE, Integer.MIN_VALUE + 1,
            Integer.MAX_VALUE - 1, Integer.MAX_VALUE
        };
    }

    static Probe after(String commands) {
        return new Probe().make(commands);
    }

    /** A table with a napkin for each letter, s, f, b, c, or . for one that is unfolded, in the colours, or else 0. */
    static Probe saying(int table, String folds, int... colours) {
        return new Probe().lay(table, folds, colours);
    }

    Probe lay(int table, String folds, int... colours) {
        for (int i = 0; i < folds.length(); i++) {
            int napkin = (int) answer("account", 0);
            make("new " + (i < colours.length ? colours[i] : 0));
            make(folds.charAt(i) == '.' ? "" : "fold " + napkin + folds.charAt(i));
            make("lay " + napkin + " " + table);
        }
        return this;
    }

    /** How many calls were made so far. */
    int calls() {
        return calls;
    }

    Object answer(String call, Object... arguments) {
        calls++;
        if (calls > CALLS) {
            throw new AssertionError("a test makes more than " + CALLS + " calls on one object");
        }
        try {
            return FACE.get(call).invoke(object, arguments);
        } catch (InvocationTargetException thrown) {
            return "throws." + thrown.getCause().getClass().getSimpleName();
        } catch (IllegalAccessException hidden) {
            throw new IllegalStateException(call, hidden);
        }
    }

    Probe is(Object want, String call, Object... arguments) {
        Due.is(call + Arrays.toString(arguments), want, () -> answer(call, arguments));
        return this;
    }

    Probe fails(Class<? extends RuntimeException> want, String call, Object... arguments) {
        return is("throws." + want.getSimpleName(), call, arguments);
    }

    Probe refuses(int reason, int detail, String call, Object... arguments) {
        return fails(UnsupportedOperationException.class, call, arguments).refusal(reason, detail).noCause();
    }

    Probe refusal(int reason, int detail) {
        return is(reason, "refusal", false, false).is(detail, "refusal", false, true);
    }

    Probe cause(int reason, int detail) {
        return is(reason, "refusal", true, false).is(detail, "refusal", true, true);
    }

    Probe noCause() {
        return fails(NoSuchElementException.class, "refusal", true, false)
            .fails(NoSuchElementException.class, "refusal", true, true);
    }

    Probe noRefusal() {
        return fails(NoSuchElementException.class, "refusal", false, false)
            .fails(NoSuchElementException.class, "refusal", false, true).noCause();
    }

    /** Makes the calls of the commands, one by one, each of which must go well; "save" is a command here, too. */
    Probe make(String commands) {
        for (String command : commands.isEmpty() ? new String[0] : commands.split(";")) {
            Object answer = follow(command);
            if (answer.toString().startsWith("throws.")) {
                throw new IllegalStateException(command + " in " + commands + " " + answer);
            }
        }
        return this;
    }

    private Object follow(String command) {
        String[] words = command.split(" ", 2);
        if (words[0].equals("save")) {
            return answer("save");
        }
        int first = words[1].charAt(0) - '0';
        int second = words[1].charAt(words[1].length() - 1) - '0';
        switch (words[0]) {
            case "new": return answer("napkin", first);
            case "fold": return answer("fold", first, Grammar.FOLDS.indexOf(words[1].charAt(1)));
            case "open": return answer("unfold", first);
            case "lay": return answer("lay", first, second);
            case "take": return answer("take", first);
            case "move": return answer("move", first, words[1].charAt(2) - '0', second);
            case "stain": return answer("stain", first, second);
            case "wash": return answer("wash", first);
            case "read": return answer("host", first);
            default: throw new IllegalStateException(command);
        }
    }

    Probe type(String text) {
        for (char sign : text.toCharArray()) {
            if (!(answer("type", sign) instanceof Integer)) {
                throw new AssertionError("there is no room for " + text);
            }
        }
        return this;
    }

    Object read(String text) {
        return type(text).answer("read");
    }

    /** The row of a table: the numbers of its napkins. */
    Probe row(String want, int table) {
        Due.is("the row of table " + table, want, () -> rowOf(table));
        return this;
    }

    private String rowOf(int table) {
        StringBuilder row = new StringBuilder();
        for (int place = 0; place < (int) answer("tableOf", table, 0); place++) {
            row.append(answer("seat", table, place));
        }
        return row.toString();
    }

    /** The line that a call writes, and that it tells its length. */
    Probe writes(String want, String call, int table) {
        is(want.length(), call, table);
        Due.is("the line of " + call + " " + table, want, this::line);
        return this;
    }

    Probe lineIs(String want) {
        Due.is("the line", want, this::line);
        return this;
    }

    private String line() {
        StringBuilder line = new StringBuilder();
        for (int index = 0; answer("written", index) instanceof Character; index++) {
            line.append(answer("written", index));
        }
        return line.toString();
    }

    String state() {
        return told(EnumSet.complementOf(EnumSet.of(Part.STATE)));
    }

    Probe stateIs(String label, String want) {
        Due.is(label, want, this::state);
        return this;
    }

    /** All that the object tells when asked, but for some parts. */
    String told(Set<Part> but) {
        StringBuilder told = new StringBuilder();
        if (!but.contains(Part.STATE)) {
            tellState(told);
        }
        if (!but.contains(Part.BUFFER)) {
            told.append(" typed ").append(answer("account", 10));
        }
        if (!but.contains(Part.ERROR_POSITION)) {
            told.append(" error ").append(answer("errorPosition"));
        }
        if (!but.contains(Part.REFUSAL)) {
            told.append(" refused ").append(answer("refusal", false, false)).append(' ').append(answer("refusal", false, true));
            told.append(" cause ").append(answer("refusal", true, false)).append(' ').append(answer("refusal", true, true));
        }
        if (!but.contains(Part.LINE)) {
            told.append(" line ").append(line());
        }
        return told.toString();
    }

    private void tellState(StringBuilder told) {
        int napkins = (int) answer("account", 0);
        for (int napkin = 0; napkin < napkins; napkin++) {
            told.append(" napkin ");
            for (int what = 0; what <= 6; what++) {
                told.append(answer("napkinOf", napkin, what)).append(',');
            }
        }
        for (int table = 0; table <= 2; table++) {
            told.append(" table ").append(rowOf(table)).append(' ');
            for (int what = 0; what <= 5; what++) {
                told.append(answer("tableOf", table, what)).append(',');
            }
        }
        told.append(" accounts ");
        for (int what = 0; what <= 11; what++) {
            told.append(what == 10 ? "" : answer("account", what)).append(',');
        }
        told.append(" well ").append(answer("isWell"));
    }
}
