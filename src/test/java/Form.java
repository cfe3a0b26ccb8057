import java.util.regex.Matcher;
import java.util.regex.Pattern;

/** The form of a text of commands, told a second time. */
final class Form {
    private static final String COMMAND =
        "(new D|fold D[sfbc]|(open |take |wash |read )D|lay D D|move D DD|stain D\\+D)".replace("D", "[0-9]");
    private static final Pattern COMMANDS = Pattern.compile(COMMAND + "(;" + COMMAND + ")*");

    private Form() {
    }

    /** The error position of a text, -1 if it is not malformed. */
    static int errorIn(String text) {
        if (COMMANDS.matcher(text).matches()) {
            return -1;
        }
        for (int index = 0; index < text.length(); index++) {
            Matcher matcher = COMMANDS.matcher(text.substring(0, index + 1));
            if (!matcher.matches() && !matcher.hitEnd()) {
                return index;
            }
        }
        return text.length();
    }

    /** Types and reads a text on a new object, and asks whether it is malformed, and where. */
    static void holds(String text) {
        int error = errorIn(text);
        Probe x = new Probe();
        String answer = x.read(text).toString();
        Due.is("whether \"" + text + "\" is malformed", error >= 0, () -> answer.equals("throws.IllegalArgumentException"));
        x.is(error >= 0 ? error : "throws.NoSuchElementException", "errorPosition").is(0, "account", 10);
    }
}
