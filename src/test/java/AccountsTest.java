/** Promises 36 to 41: accounts, undo, and the snapshot. */
public final class AccountsTest {
    public static void main(String[] args) {
        accounts();
        means();
        undoing();
        undoingEveryChange();
        undoingTheLatestEight();
        snapshots();
        whatIsNotUndone();
        Due.close("AccountsTest");
    }

    /** Everything that changes can change, as the face tells it. */
    private static String stateOf(NapkinSyntax x) {
        StringBuilder state = new StringBuilder();
        for (int napkin = 0; napkin < x.account(0); napkin++) {
            for (int what = 0; what <= 6; what++) {
                state.append(x.napkinOf(napkin, what)).append(',');
            }
        }
        for (int table = 0; table < 3; table++) {
            for (int what = 0; what <= 5; what++) {
                state.append(x.tableOf(table, what)).append(';');
            }
        }
        for (int what = 0; what <= 9; what++) {
            state.append(x.account(what)).append(' ');
        }
        return state.toString();
    }

    private static void accountsAre(NapkinSyntax x, int... due) {
        for (int what = 0; what < due.length; what++) {
            int kind = what;
            Due.is("36: account(" + what + ")", due[what], () -> x.account(kind));
        }
    }

    private static void accounts() {
        NapkinSyntax x = new NapkinSyntax();
        Due.fails("36: what 12", IllegalArgumentException.class, () -> x.account(12));
        Due.fails("36: what -1", IllegalArgumentException.class, () -> x.account(-1));
        Due.lay(x, 0, "sfcsf");
        Due.lay(x, 1, "sf.");
        accountsAre(x, 8, 7, 8, 14, 0, 2, 0, 0, 7, 0, 0, 8);
        x.host(0);
        x.host(1);
        x.stain(7, 4);
        x.stain(6, 3);
        x.take(7);
        x.wash(7);
        x.take(6);
        x.host(1);
        x.host(1);
        Due.type(x, "new");
        accountsAre(x, 8, 7, 6, 14, 3, 1, 3, 2, 7, 4, 3, 8);
        x.wash(6);
        accountsAre(x, 8, 6, 6, 14, 0, 1, 3, 2, 7, 7, 3, 8);
    }

    private static void means() {
        NapkinSyntax x = new NapkinSyntax();
        Due.fails("37: no napkins", ArithmeticException.class, () -> x.meanStains());
        Due.fails("38: no napkins", ArithmeticException.class, () -> x.foldedShare());
        x.napkin(0);
        Due.is("37: none", 0.0, () -> x.meanStains());
        Due.is("38: none", 0.0f, () -> x.foldedShare());
        x.napkin(0);
        x.napkin(0);
        x.stain(0, 3);
        x.stain(2, 2);
        x.fold(1, 4);
        Due.is("37: five thirds", 5.0 / 3.0, () -> x.meanStains());
        Due.is("38: a third", 1.0f / 3.0f, () -> x.foldedShare());
        x.fold(0, 1);
        x.fold(2, 1);
        Due.is("38: all", 1.0f, () -> x.foldedShare());
    }

    private static void undoing() {
        NapkinSyntax x = new NapkinSyntax();
        Due.fails("39: none", IllegalStateException.class, () -> x.undo());
        x.napkin(1);
        x.napkin(2);
        Due.answerOf(() -> x.napkin(7));
        Due.answerOf(() -> x.take(0));
        Due.answerOf(() -> x.unfold(0));
        x.save();
        x.show(0);
        Due.is("39: changes alone", 2, () -> x.account(11));
        Due.is("39: one is left", 1, () -> x.undo());
        Due.is("39: one napkin", 1, () -> x.account(0));
        Due.is("39: a napkin comes anew", 1, () -> x.napkin(3));
        Due.is("39: its colour", 3, () -> x.napkinOf(1, 0));
        Due.is("39: undo", 1, () -> x.undo());
        Due.is("39: undo", 0, () -> x.undo());
        Due.fails("39: none is left", IllegalStateException.class, () -> x.undo());
        Due.is("39: no napkins", 0, () -> x.account(0));
    }

    private static void undoingEveryChange() {
        NapkinSyntax x = new NapkinSyntax();
        Due.lay(x, 0, "sf.");
        x.stain(1, 2);
        x.napkin(0);
        x.stain(3, 5);
        x.fold(3, 2);
        Runnable[] changes = {
            () -> x.napkin(2), () -> x.fold(2, 3), () -> x.unfold(1), () -> x.lay(3, 0), () -> x.lay(3, 2), () -> x.take(0),
            () -> x.move(0, 0, 2), () -> x.stain(0, 4), () -> x.wash(3), () -> x.host(0), () -> {
                Due.type(x, "open 0;read 0");
                x.read();
            }
        };
        for (int i = 0; i < changes.length; i++) {
            String before = stateOf(x);
            int left = x.account(11);
            changes[i].run();
            Due.is("39: change " + i + " shows", false, () -> stateOf(x).equals(before));
            Due.is("39: undo of change " + i, left == 8 ? 7 : left, () -> x.undo());
            Due.is("39: state before change " + i, before, () -> stateOf(x));
        }
    }

    private static void undoingTheLatestEight() {
        NapkinSyntax x = new NapkinSyntax();
        String[] states = new String[11];
        for (int i = 0; i < 10; i++) {
            states[i] = stateOf(x);
            x.napkin(i % 4);
            int due = Math.min(i + 1, 8);
            Due.is("39: can be undone", due, () -> x.account(11));
        }
        for (int i = 9; i >= 2; i--) {
            int left = i - 2;
            Due.is("39: undo", left, () -> x.undo());
            Due.is("39: the state before", states[i], () -> stateOf(x));
        }
        Due.fails("39: not the ninth", IllegalStateException.class, () -> x.undo());
        Due.is("39: two napkins stay", 2, () -> x.account(0));
    }

    private static void snapshots() {
        NapkinSyntax x = new NapkinSyntax();
        Due.fails("41: no snapshot", IllegalStateException.class, () -> x.restore());
        Due.is("40: save", 0, () -> x.save());
        Due.lay(x, 0, "sf");
        Due.is("41: restore", 0, () -> x.restore());
        Due.is("41: no change can be undone", 0, () -> x.account(11));
        Due.fails("41: no undo", IllegalStateException.class, () -> x.undo());
        Due.lay(x, 1, "sf.");
        x.host(1);
        x.stain(0, 3);
        Due.is("40: save, in place of the earlier", 3, () -> x.save());
        Due.is("40: changes stay", 8, () -> x.account(11));
        String saved = stateOf(x);
        x.undo();
        x.napkin(1);
        x.host(1);
        x.move(1, 0, 1);
        x.take(1);
        x.fold(1, 1);
        Due.is("41: restore", 3, () -> x.restore());
        Due.is("41: the state", saved, () -> stateOf(x));
        x.wash(wiped(x));
        Due.is("41: it stays", 3, () -> x.restore());
        Due.is("41: the state", saved, () -> stateOf(x));
        Due.is("41: isWell", true, () -> x.isWell());
    }

    private static int wiped(NapkinSyntax x) {
        x.take(0);
        return 0;
    }

    private static void whatIsNotUndone() {
        NapkinSyntax x = new NapkinSyntax();
        x.save();
        x.napkin(0);
        Due.answerOf(() -> x.take(0));
        Due.type(x, "q");
        Due.answerOf(() -> x.read());
        Due.type(x, "new");
        x.undo();
        Due.is("39: the buffer stays", 3, () -> x.account(10));
        Due.is("39: the error position stays", 0, () -> x.errorPosition());
        Due.is("39: the reason stays", 5, () -> x.refusal(false, false));
        Due.type(x, " 1");
        x.restore();
        Due.is("41: the buffer stays", 5, () -> x.account(10));
        Due.is("41: the reason stays", 5, () -> x.refusal(false, false));
        Due.is("41: the buffer is read", 1, () -> x.read());
    }
}
