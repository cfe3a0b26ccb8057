import java.util.Random;

/** All promises together: random runs of calls, each answer held against the model's. */
public final class ModelTest {
    private static final int RUNS = 3000;
    private static final int CALLS = 512;
    private static final String[] BROKEN = {"new", "fold 1x", "lay 0 ", "new 1;", "stain 1 2", "x", "move 0 1 2"};

    private final Random random;
    private final NapkinSyntax x = new NapkinSyntax();
    private final Model model = new Model();
    private int calls = 0;

    private ModelTest(long seed) {
        random = new Random(seed);
    }

    public static void main(String[] args) {
        for (long seed = 1; seed <= RUNS; seed++) {
            new ModelTest(seed).run(seed);
        }
        Due.close("ModelTest");
    }

    private void run(long seed) {
        while (calls < CALLS - 70) {
            step("run " + seed + ", call " + calls);
        }
        while (calls < CALLS) {
            look("run " + seed + ", call " + calls);
        }
    }

    /** Mostly a number that is fit, now and then one outside. */
    private int number(int low, int high) {
        int lot = random.nextInt(40);
        if (lot == 0) {
            return low - 1;
        }
        if (lot == 1) {
            return high + 1;
        }
        return lot == 2 && random.nextInt(5) == 0 ? random.nextInt() : low + random.nextInt(high - low + 1);
    }

    private int someNapkin() {
        return number(0, Math.max(0, model.account(0) - 1));
    }

    private int someTable() {
        return random.nextInt(3) == 0 ? number(0, 2) : 0;
    }

    private int somePlace(int table) {
        return number(0, table < 0 || table > 2 ? 1 : Math.max(0, model.tableOf(table, 0) - 1));
    }

    private void step(String call) {
        if (random.nextInt(3) == 0) {
            look(call);
        } else {
            change(call);
        }
    }

    private void change(String call) {
        calls++;
        int napkin = someNapkin();
        int table = someTable();
        switch (random.nextInt(20)) {
            case 0: case 1: {
                int colour = number(0, 3);
                Due.is(call + ": napkin", Due.answerOf(() -> model.napkin(colour)), () -> x.napkin(colour));
                break;
            }
            case 2: case 3: case 4: {
                int fold = number(1, 4);
                Due.is(call + ": fold", Due.answerOf(() -> model.fold(napkin, fold)), () -> x.fold(napkin, fold));
                break;
            }
            case 5:
                Due.is(call + ": unfold", Due.answerOf(() -> model.unfold(napkin)), () -> x.unfold(napkin));
                break;
            case 6: case 7: case 8:
                Due.is(call + ": lay", Due.answerOf(() -> model.lay(napkin, table)), () -> x.lay(napkin, table));
                break;
            case 9:
                Due.is(call + ": take", Due.answerOf(() -> model.take(napkin)), () -> x.take(napkin));
                break;
            case 10: case 11: {
                int from = somePlace(table);
                int to = somePlace(table);
                Due.is(call + ": move", Due.answerOf(() -> model.move(table, from, to)), () -> x.move(table, from, to));
                break;
            }
            case 12: case 13: {
                int much = random.nextInt(3) == 0 ? number(1, 9) : 1;
                Due.is(call + ": stain", Due.answerOf(() -> model.stain(napkin, much)), () -> x.stain(napkin, much));
                break;
            }
            case 14:
                Due.is(call + ": wash", Due.answerOf(() -> model.wash(napkin)), () -> x.wash(napkin));
                break;
            case 15:
                Due.is(call + ": host", Due.answerOf(() -> model.host(table)), () -> x.host(table));
                break;
            case 16: case 17:
                text(call);
                break;
            case 18:
                Due.is(call + ": undo", Due.answerOf(() -> model.undo()), () -> x.undo());
                break;
            default:
                if (random.nextInt(4) == 0) {
                    Due.is(call + ": restore", Due.answerOf(() -> model.restore()), () -> x.restore());
                } else {
                    Due.is(call + ": save", Due.answerOf(() -> model.save()), () -> x.save());
                }
        }
    }

    private void text(String call) {
        StringBuilder text = new StringBuilder();
        int commands = 1 + random.nextInt(7);
        for (int i = 0; i < commands && text.length() < 52; i++) {
            text.append(i == 0 ? "" : ";").append(command());
        }
        for (char sign : text.toString().toCharArray()) {
            calls++;
            Due.is(call + ": type", Due.answerOf(() -> model.type(sign)), () -> x.type(sign));
        }
        Due.is(call + ": read " + text, Due.answerOf(() -> model.read()), () -> x.read());
    }

    private String command() {
        int napkin = Math.min(9, Math.max(0, someNapkin()));
        int table = random.nextInt(30) == 0 ? 3 : random.nextInt(3);
        int from = random.nextInt(4);
        int to = random.nextInt(4);
        switch (random.nextInt(12)) {
            case 0: return "new " + random.nextInt(5);
            case 1: case 2: return "fold " + napkin + "sfbc".charAt(to);
            case 3: return "open " + napkin;
            case 4: return "take " + napkin;
            case 5: return "wash " + napkin;
            case 6: return "read " + table;
            case 7: case 8: return "lay " + napkin + " " + table;
            case 9: return "move " + table + " " + from + to;
            case 10: return "stain " + napkin + "+" + from;
            default: return random.nextInt(4) == 0 ? BROKEN[random.nextInt(BROKEN.length)] : "fold " + napkin + "f";
        }
    }

    private void look(String call) {
        calls++;
        int napkin = someNapkin();
        int table = someTable();
        int place = somePlace(table);
        int what = number(0, 3);
        switch (random.nextInt(29)) {
            case 0: {
                int kind = number(0, 6);
                Due.is(call + ": napkinOf", Due.answerOf(() -> model.napkinOf(napkin, kind)), () -> x.napkinOf(napkin, kind));
                break;
            }
            case 1: {
                int kind = number(0, 5);
                Due.is(call + ": tableOf", Due.answerOf(() -> model.tableOf(table, kind)), () -> x.tableOf(table, kind));
                break;
            }
            case 2: case 3:
                Due.is(call + ": seat", Due.answerOf(() -> model.seat(table, place)), () -> x.seat(table, place));
                break;
            case 4:
                Due.is(call + ": said", Due.answerOf(() -> model.said(table, place)), () -> x.said(table, place));
                break;
            case 5:
                Due.is(call + ": wrong", Due.answerOf(() -> model.wrong(table)), () -> x.wrong(table));
                break;
            case 6:
                Due.is(call + ": wrongAgain", Due.answerOf(() -> model.wrong(table)), () -> x.wrongAgain(table));
                break;
            case 7:
                Due.is(call + ": isRight", Due.answerOf(() -> table < 0 || table > 2 ? model.wrong(table) : model.isRight(table)),
                    () -> x.isRight(table));
                break;
            case 8:
                Due.is(call + ": phrases", Due.answerOf(() -> model.phrases(table)), () -> x.phrases(table));
                break;
            case 9: case 10: case 11: {
                int phrase = number(0, 1);
                Due.is(call + ": phraseOf", Due.answerOf(() -> model.phraseOf(table, phrase, what)),
                    () -> x.phraseOf(table, phrase, what));
                break;
            }
            case 12:
                Due.is(call + ": next", Due.answerOf(() -> model.next(table)), () -> x.next(table));
                break;
            case 13:
                Due.is(call + ": fewest", Due.answerOf(() -> model.fewest(table)), () -> x.fewest(table));
                break;
            case 14:
                Due.is(call + ": fewestAgain", Due.answerOf(() -> model.fewest(table)), () -> x.fewestAgain(table));
                break;
            case 15:
                Due.is(call + ": doubt", Due.answerOf(() -> model.doubt(table)), () -> x.doubt(table));
                break;
            case 16:
                Due.is(call + ": doubtAgain", Due.answerOf(() -> model.doubt(table)), () -> x.doubtAgain(table));
                break;
            case 17:
                Due.is(call + ": sure", Due.answerOf(() -> model.sure(table)), () -> x.sure(table));
                break;
            case 18: {
                int rank = number(0, 2);
                Due.is(call + ": clearest", Due.answerOf(() -> model.clearest(rank)), () -> x.clearest(rank));
                break;
            }
            case 19:
                Due.is(call + ": worn", Due.answerOf(() -> model.worn(napkin)), () -> x.worn(napkin));
                break;
            case 20:
                Due.is(call + ": isWell", true, () -> x.isWell());
                break;
            case 21:
                Due.is(call + ": errorPosition", Due.answerOf(() -> model.errorPosition()), () -> x.errorPosition());
                break;
            case 22: {
                boolean isCause = random.nextBoolean();
                boolean isDetail = random.nextBoolean();
                Due.is(call + ": refusal", Due.answerOf(() -> model.refusal(isCause, isDetail)),
                    () -> x.refusal(isCause, isDetail));
                break;
            }
            case 23:
                Due.is(call + ": show", Due.answerOf(() -> model.show(table)), () -> x.show(table));
                break;
            case 24:
                Due.is(call + ": tell", Due.answerOf(() -> model.tell(table)), () -> x.tell(table));
                break;
            case 25: {
                int index = number(0, 17);
                Due.is(call + ": written", Due.answerOf(() -> model.written(index)), () -> x.written(index));
                break;
            }
            case 26: {
                int kind = number(0, 11);
                Due.is(call + ": account", Due.answerOf(() -> model.account(kind)), () -> x.account(kind));
                break;
            }
            case 27:
                Due.is(call + ": meanStains", Due.answerOf(() -> model.meanStains()), () -> x.meanStains());
                break;
            default:
                Due.is(call + ": foldedShare", Due.answerOf(() -> model.foldedShare()), () -> x.foldedShare());
        }
    }
}
