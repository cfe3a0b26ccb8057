import java.util.Random;

/** Promises 30 and 31: random texts of commands, most with some characters otherwise. */
public final class CommandsTest {
    private static final int TEXTS = 20000;
    private static final String[] SAMPLES = {
        "new 1", "fold 0s", "fold 1f", "fold 2b", "fold 3c", "open 0", "take 1", "wash 2", "read 0", "lay 0 1",
        "move 0 12", "stain 3+4"
    };
    private static final String SIGNS = "abcdefghijklmnopqrstuvwxyz0123456789 ;+#@\u00e9\u1234S\n";

    public static void main(String[] args) {
        Random random = new Random(7);
        for (int number = 0; number < TEXTS; number++) {
            Form.holds(someText(random));
        }
        Due.close("CommandsTest");
    }

    private static String someText(Random random) {
        StringBuilder text = new StringBuilder();
        int commands = 1 + random.nextInt(5);
        for (int i = 0; i < commands; i++) {
            text.append(i == 0 ? "" : ";").append(SAMPLES[random.nextInt(SAMPLES.length)]);
        }
        int changes = random.nextInt(3);
        for (int i = 0; i < changes && text.length() > 0; i++) {
            int at = random.nextInt(text.length());
            char sign = SIGNS.charAt(random.nextInt(SIGNS.length()));
            switch (random.nextInt(4)) {
                case 0: text.setCharAt(at, sign); break;
                case 1: text.insert(at, sign); break;
                case 2: text.deleteCharAt(at); break;
                default: text.setLength(at); break;
            }
        }
        return text.toString();
    }
}
