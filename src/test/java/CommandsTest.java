import java.util.NoSuchElementException;
import java.util.Random;
import java.util.regex.Matcher;
import java.util.regex.Pattern;

/** Promises 29 to 35: the input buffer, texts of commands, refusals, and lines. */
public final class CommandsTest {
    private static final String COMMAND = "(new \\d|fold \\d[sfbc]|(open |take |wash |read )\\d|lay \\d \\d|move \\d \\d\\d|stain \\d\\+\\d)";
    private static final Pattern COMMANDS = Pattern.compile((COMMAND + "(;" + COMMAND + ")*").replace("\\d", "[0-9]"));
    private static final String[] SAMPLES = {
        "new 1", "fold 0s", "fold 1f", "fold 2b", "fold 3c", "open 0", "take 1", "wash 2", "read 0", "lay 0 1",
        "move 0 12", "stain 3+4"
    };
    private static final String SIGNS = "abcdefghijklmnopqrstuvwxyz0123456789 ;+#@\u00e9\u1234S\n";

    public static void main(String[] args) {
        buffer();
        allOrNone();
        everyCommand();
        refusedCommands();
        errorPositions();
        errorPositionsOfMany();
        refusals();
        shownLines();
        toldLines();
        Due.close("CommandsTest");
    }

    private static void buffer() {
        NapkinSyntax x = new NapkinSyntax();
        for (int i = 1; i <= 60; i++) {
            int length = i;
            Due.is("29: type", length, () -> x.type('x'));
        }
        Due.fails("29: the 61st", IllegalStateException.class, () -> x.type('x'));
        Due.is("29: account(10)", 60, () -> x.account(10));
        Due.fails("30: read", IllegalArgumentException.class, () -> x.read());
        Due.is("30: empty afterwards", 0, () -> x.account(10));
        Due.is("29: type", 1, () -> x.type('\uffff'));
    }

    private static Object read(NapkinSyntax x, String text) {
        Due.type(x, text);
        return x.read();
    }

    private static void allOrNone() {
        NapkinSyntax x = new NapkinSyntax();
        Due.is("30: two commands", 2, () -> read(x, "new 1;new 3"));
        Due.is("30: empty afterwards", 0, () -> x.account(10));
        Due.is("30: carried out", 2, () -> x.account(0));
        Due.is("30: one change", 1, () -> x.account(11));
        Due.is("30: colour", 3, () -> x.napkinOf(1, 0));
        Due.is("30: refused", "throws.UnsupportedOperationException",
            () -> Due.answerOf(() -> read(x, "fold 0s;stain 0+3;lay 0 2;new 2;take 1;new 1")));
        Due.is("32: reason", 9, () -> x.refusal(false, false));
        Due.is("32: number", 4, () -> x.refusal(false, true));
        Due.is("32: cause", 5, () -> x.refusal(true, false));
        Due.is("32: detail of the cause", 1, () -> x.refusal(true, true));
        Due.is("30: none is carried out", 2, () -> x.account(0));
        Due.is("30: no fold", 0, () -> x.napkinOf(0, 1));
        Due.is("30: no creases", 0, () -> x.account(3));
        Due.is("30: no stains", 0, () -> x.account(4));
        Due.is("30: no foldings", 0, () -> x.account(8));
        Due.is("30: on no table", 0, () -> x.account(2));
        Due.is("30: empty afterwards", 0, () -> x.account(10));
        Due.is("30: no change", 1, () -> x.account(11));
        Due.fails("30: the empty text", IllegalArgumentException.class, () -> x.read());
        Due.is("32: kept though malformed", 9, () -> x.refusal(false, false));
        Due.is("30: ten commands", "throws.UnsupportedOperationException",
            () -> Due.answerOf(() -> read(x, "new 0;new 0;new 0;new 0;new 0;new 0;new 0;new 0;new 0;new 0")));
        Due.is("32: number", 8, () -> x.refusal(false, true));
        Due.is("39: one change", 0, () -> x.undo());
        Due.is("30: ten commands", 10,
            () -> read(x, "new 0;new 0;new 0;new 0;new 0;new 0;new 0;new 0;new 0;new 0"));
        Due.is("30: ten napkins", 10, () -> x.account(0));
    }

    private static void everyCommand() {
        NapkinSyntax x = new NapkinSyntax();
        read(x, "new 3;new 2;new 1;new 0");
        read(x, "fold 0s;fold 1f;fold 2b;fold 3c");
        for (int napkin = 0; napkin < 4; napkin++) {
            int number = napkin;
            Due.is("30: fold", number + 1, () -> x.napkinOf(number, 1));
            Due.is("30: new", 3 - number, () -> x.napkinOf(number, 0));
        }
        read(x, "lay 0 2;lay 1 2;lay 2 2;move 2 02");
        Due.is("30: lay and move", 2, () -> x.napkinOf(0, 5));
        Due.is("30: move", 0, () -> x.seat(2, 2));
        read(x, "move 2 20;read 2");
        Due.is("30: read", 1, () -> x.account(6));
        read(x, "take 2;stain 2+7;stain 1+2");
        Due.is("30: take", -1, () -> x.napkinOf(2, 4));
        Due.is("30: stain", 7, () -> x.napkinOf(2, 3));
        read(x, "wash 2;open 1;read 2");
        Due.is("30: wash", 7, () -> x.account(9));
        Due.is("30: open", 0, () -> x.napkinOf(1, 1));
        Due.is("30: puzzled", 1, () -> x.account(7));
        Due.is("30: changes", 6, () -> x.account(11));
    }

    private static void refused(String text, int number, int reason, int detail) {
        NapkinSyntax x = new NapkinSyntax();
        read(x, "new 0;new 1;fold 0s;lay 0 1;lay 1 1;stain 0+5");
        Due.type(x, text);
        Due.fails("30: " + text, UnsupportedOperationException.class, () -> x.read());
        Due.is("32: reason of " + text, 9, () -> x.refusal(false, false));
        Due.is("32: number of " + text, number, () -> x.refusal(false, true));
        Object none = "throws.NoSuchElementException";
        Due.is("32: cause of " + text, reason == 0 ? none : reason, () -> x.refusal(true, false));
        Due.is("32: its detail of " + text, reason == 0 ? none : detail, () -> x.refusal(true, true));
        Due.is("30: undone " + text, 5, () -> x.account(4));
        Due.is("30: no more changes by " + text, 1, () -> x.account(11));
    }

    private static void refusedCommands() {
        refused("new 4", 0, 0, 0);
        refused("new 1;new 9", 1, 0, 0);
        refused("fold 2s", 0, 0, 0);
        refused("fold 0s", 0, 2, 1);
        refused("stain 0+1;fold 1c;fold 1s;fold 1c;fold 1s;fold 1b;fold 1f", 6, 3, 12);
        refused("open 1", 0, 2, 0);
        refused("open 3", 0, 0, 0);
        refused("lay 0 0", 0, 4, 1);
        refused("lay 0 3", 0, 0, 0);
        refused("new 0;lay 2 0;take 0;take 2;take 2", 4, 5, 2);
        refused("take 2", 0, 0, 0);
        refused("move 0 00", 0, 0, 0);
        refused("move 3 00", 0, 0, 0);
        refused("move 1 02", 0, 0, 0);
        refused("move 1 20", 0, 0, 0);
        refused("move 1 11", 0, 2, 1);
        refused("stain 0+0", 0, 0, 0);
        refused("stain 2+1", 0, 0, 0);
        refused("stain 1+9;stain 0+5", 1, 6, 5);
        refused("wash 0", 0, 4, 1);
        refused("take 1;wash 1", 1, 7, 1);
        refused("wash 9", 0, 0, 0);
        refused("read 0", 0, 8, 0);
        refused("open 0;read 1", 1, 8, 2);
        refused("read 1;read 3", 1, 0, 0);
    }

    private static int errorOf(String text) {
        for (int i = 0; i < text.length(); i++) {
            Matcher matcher = COMMANDS.matcher(text.substring(0, i + 1));
            if (!matcher.matches() && !matcher.hitEnd()) {
                return i;
            }
        }
        return text.length();
    }

    private static void malformed(NapkinSyntax x, String text) {
        Due.type(x, text);
        Due.fails("30: " + text, IllegalArgumentException.class, () -> x.read());
        Due.is("31: of " + text, errorOf(text), () -> x.errorPosition());
        Due.is("30: empty after " + text, 0, () -> x.account(10));
    }

    private static void errorPositions() {
        NapkinSyntax x = new NapkinSyntax();
        Due.fails("31: none yet", NoSuchElementException.class, () -> x.errorPosition());
        String[] texts = {
            "", " ", ";", "n", "new", "new ", "new x", "new 1 ", "new 1;", "new 1;;", "new 1;x", "new 12", "new 1,", "fold 0",
            "fold 0x", "fold 0ss", "fold 0S", "fox", "s", "st", "sta", "stain 1", "stain 1 1", "stain 1+", "stain 1+a",
            "stain 1+11", "lay 1", "lay 1  1", "lay 11", "lay 1 11", "move 1 1", "move 1 1 1", "move 1 111", "move 11",
            "open0", "open x", "open 0s", "tak 1", "take", "wsh", "wa", "reat", "read 10", "host 1", "New 1", "new #",
            "fold 0@", "\u0100", "new \u0661"
        };
        for (String text : texts) {
            malformed(x, text);
        }
        Due.is("31: of the latest", 4, () -> x.errorPosition());
        Due.is("30: a right one", 1, () -> read(x, "new 0"));
        Due.is("31: is kept", 4, () -> x.errorPosition());
        Due.is("30: not carried out", 1, () -> x.account(0));
        Due.is("30: sixty characters", "throws.IllegalArgumentException",
            () -> Due.answerOf(() -> read(x, "new 0;new 0;new 0;new 0;new 0;new 0;new 0;new 0;new 0;new 0;")));
        Due.is("31: their number", 60, () -> x.errorPosition());
    }

    private static void errorPositionsOfMany() {
        Random random = new Random(7);
        for (int round = 0; round < 20000; round++) {
            StringBuilder text = new StringBuilder();
            int commands = 1 + random.nextInt(4);
            for (int i = 0; i < commands; i++) {
                text.append(i == 0 ? "" : ";").append(SAMPLES[random.nextInt(SAMPLES.length)]);
            }
            int changes = random.nextInt(3);
            for (int i = 0; i < changes && text.length() > 0; i++) {
                int at = random.nextInt(text.length());
                char sign = SIGNS.charAt(random.nextInt(SIGNS.length()));
                switch (random.nextInt(4)) {
                    case 0: text.setCharAt(at, sign); break;
                    case 1: text.insert(at, sign); break;
                    case 2: text.deleteCharAt(at); break;
                    default: text.setLength(at); break;
                }
            }
            String whole = text.toString();
            NapkinSyntax x = new NapkinSyntax();
            if (!COMMANDS.matcher(whole).matches()) {
                malformed(x, whole);
            } else {
                Due.type(x, whole);
                Due.answerOf(() -> x.read());
                Due.fails("31: well-formed " + whole, NoSuchElementException.class, () -> x.errorPosition());
            }
        }
    }

    private static void refusals() {
        NapkinSyntax x = new NapkinSyntax();
        for (boolean isCause : new boolean[] {false, true}) {
            for (boolean isDetail : new boolean[] {false, true}) {
                Due.fails("32: nothing refused", NoSuchElementException.class, () -> x.refusal(isCause, isDetail));
            }
        }
        Due.refuses("32: a refusal", x, 8, 0, () -> x.host(1));
        Due.fails("32: another exception", IndexOutOfBoundsException.class, () -> x.host(3));
        Due.is("32: is not kept", 8, () -> x.refusal(false, false));
        Due.answerOf(() -> read(x, "read 2"));
        Due.is("32: with a cause", 8, () -> x.refusal(true, false));
        Due.answerOf(() -> read(x, "take 0"));
        Due.fails("32: without a cause", NoSuchElementException.class, () -> x.refusal(true, false));
        Due.answerOf(() -> read(x, "read 2"));
        x.napkin(0);
        Due.is("32: kept by a success", 9, () -> x.refusal(false, false));
        Due.refuses("32: the cause goes", x, 5, 0, () -> x.take(0));
    }

    private static void shownLines() {
        NapkinSyntax x = new NapkinSyntax();
        Due.fails("35: no line", NoSuchElementException.class, () -> x.written(0));
        Due.is("33: an empty table", 0, () -> x.show(1));
        Due.fails("35: an empty line", NoSuchElementException.class, () -> x.written(0));
        Due.lay(x, 1, "s.fbc");
        x.napkin(0);
        x.lay(5, 1);
        Due.is("33: show", "0s1.2f3b4c5.", () -> Due.line(x, x.show(1)));
        for (int napkin : new int[] {0, 1, 5}) {
            x.stain(napkin, 1);
        }
        x.move(1, 1, 0);
        Due.is("33: show", "1.*0s*2f3b4c5.*", () -> Due.line(x, x.show(1)));
        Due.is("35: written(14)", '*', () -> x.written(14));
        Due.fails("35: written(15)", NoSuchElementException.class, () -> x.written(15));
        Due.fails("35: written(-1)", NoSuchElementException.class, () -> x.written(-1));
        Due.fails("33: table 3", IndexOutOfBoundsException.class, () -> x.show(3));
        Due.fails("33: table -1", IndexOutOfBoundsException.class, () -> x.show(-1));
        Due.is("35: the line stays", '*', () -> x.written(14));
        for (int napkin : new int[] {2, 3, 4}) {
            x.stain(napkin, 9);
        }
        Due.is("33: the longest", "1.*0s*2f*3b*4c*5.*", () -> Due.line(x, x.show(1)));
        Due.is("33: another table", 0, () -> x.show(0));
        Due.fails("35: in place of the line before", NoSuchElementException.class, () -> x.written(0));
        x.save();
        x.show(1);
        x.undo();
        x.restore();
        Due.is("35: neither undone nor saved", '*', () -> x.written(17));
    }

    private static void toldLines() {
        NapkinSyntax x = new NapkinSyntax();
        int[] colours = {0, 3, 3, 2, 1, 1};
        int[] folds = {1, 1, 2, 4, 1, 2};
        for (int i = 0; i < folds.length; i++) {
            x.napkin(colours[i]);
            x.fold(i, folds[i]);
            x.lay(i, 0);
        }
        x.stain(1, 1);
        Due.is("34: tell", "S0 S3? F3 + S1 F1", () -> Due.line(x, x.tell(0)));
        Due.is("33: show in its place", 13, () -> x.show(0));
        Due.fails("35: no rest of it", NoSuchElementException.class, () -> x.written(13));
        for (int napkin : new int[] {0, 2, 3, 4, 5}) {
            x.stain(napkin, 2);
        }
        x.fold(3, 3);
        Due.is("34: the longest", "S0? S3? F3? B2? S1? F1?", () -> Due.line(x, x.tell(0)));
        x.fold(3, 4);
        x.unfold(0);
        x.unfold(4);
        Due.is("34: tell", "S3? F3? +? F1?", () -> Due.line(x, x.tell(0)));
        Due.fails("34: table 3", IndexOutOfBoundsException.class, () -> x.tell(3));
        Due.fails("34: table -1", IndexOutOfBoundsException.class, () -> x.tell(-1));
        Due.is("35: the line stays", 'S', () -> x.written(0));
        Due.is("34: nothing said", 0, () -> x.tell(1));
        Due.fails("35: an empty line", NoSuchElementException.class, () -> x.written(0));
    }
}
