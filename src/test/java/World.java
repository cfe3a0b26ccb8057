import java.util.EnumSet;

/**
 * Calls that throw, each on a new object, beside a twin on which the call is not made: both must tell the same
 * afterwards, as they are, after every number of undos, after a restore, and after the buffer is read.
 */
final class World {
    /** Stands among the arguments of a call for each of some numbers. */
    static final Object EACH = new Object();

    static final String TEN = "new 0;new 1;new 2;new 3;new 0;new 1;new 2;new 3;new 0;new 1";
    static final World NONE_CAME = new World("save");
    static final World TEN_CAME = new World("save;" + TEN);
    /** Table 1 is full; napkin 6 lies on table 0 and is stained, 7 to 9 lie on none, 9 has 12 creases, 8 has 9 stains. */
    static final World FULL = new World(TEN + ";lay 0 1;lay 1 1;lay 2 1;lay 3 1;lay 4 1;lay 5 1;save;lay 6 0;stain 6+4;stain 8+9;"
        + "fold 9s;fold 9b;fold 9s;fold 9b;fold 9c;fold 0s;fold 1f;read 1");

    private static final int UNDONE = 8;
    private static final int RESTORED = UNDONE + 1;
    private static final int READ = RESTORED + 1;

    private final String commands;
    private final String text;
    private final boolean isKeeping;

    /** Beside what the commands make, a refusal with a cause, an error position, a line and typed characters are kept. */
    World(String commands) {
        this(commands, "new 3", true);
    }

    private World(String commands, String text, boolean isKeeping) {
        this.commands = commands;
        this.text = text;
        this.isKeeping = isKeeping;
    }

    World typed(String other) {
        return new World(commands, other, isKeeping);
    }

    /** Nothing is kept beside what the commands make. */
    World bare() {
        return new World(commands, "", false);
    }

    Probe ready() {
        Probe probe = Probe.after(commands);
        if (isKeeping) {
            probe.read("new x");
            probe.read("new 0;open " + Math.min(9, (int) probe.answer("account", 0)));
            probe.answer("show", 0);
        }
        return probe.type(text);
    }

    void fails(Class<? extends RuntimeException> want, String call, Object... arguments) {
        ready().fails(want, call, arguments);
        unchanged(EnumSet.noneOf(Probe.Part.class), call, arguments);
    }

    void failsForEach(int[] numbers, Class<? extends RuntimeException> want, String call, Object... arguments) {
        for (int number : numbers) {
            Object[] filled = arguments.clone();
            for (int i = 0; i < filled.length; i++) {
                if (filled[i] == EACH) {
                    filled[i] = number;
                }
            }
            fails(want, call, filled);
        }
    }

    void refuses(int reason, int detail, String call, Object... arguments) {
        ready().refuses(reason, detail, call, arguments);
        unchanged(EnumSet.of(Probe.Part.REFUSAL), call, arguments);
    }

    /** The typed text is malformed. */
    void malformed(int errorPosition) {
        ready().fails(IllegalArgumentException.class, "read").is(errorPosition, "errorPosition").is(0, "account", 10);
        unchanged(EnumSet.of(Probe.Part.BUFFER, Probe.Part.ERROR_POSITION), "read");
    }

    /** A command of the typed text is refused. */
    void refusesText(int number, int reason, int detail) {
        refusedText(number).cause(reason, detail);
        unchanged(EnumSet.of(Probe.Part.BUFFER, Probe.Part.REFUSAL), "read");
    }

    /** A command of the typed text would throw another exception. */
    void refusesText(int number) {
        refusedText(number).noCause();
        unchanged(EnumSet.of(Probe.Part.BUFFER, Probe.Part.REFUSAL), "read");
    }

    private Probe refusedText(int number) {
        return ready().fails(UnsupportedOperationException.class, "read").refusal(9, number).is(0, "account", 10);
    }

    /** All that the object tells is as without the call, but for some parts. */
    void unchanged(EnumSet<Probe.Part> but, String call, Object... arguments) {
        for (int step = 0; step <= READ; step++) {
            Probe twin = ready();
            Probe probe = ready();
            probe.answer(call, arguments);
            int then = step;
            Due.is("after " + call + java.util.Arrays.toString(arguments) + ", step " + step, toldAfter(twin, step, but),
                () -> toldAfter(probe, then, but));
        }
    }

    private static String toldAfter(Probe probe, int step, EnumSet<Probe.Part> but) {
        StringBuilder told = new StringBuilder();
        for (int undone = 0; undone < step && step <= UNDONE; undone++) {
            told.append(probe.answer("undo")).append(' ');
        }
        if (step == RESTORED) {
            told.append(probe.answer("restore"));
        }
        if (step == READ && !but.contains(Probe.Part.BUFFER)) {
            told.append(probe.answer("read"));
        }
        return told + probe.told(but);
    }
}
