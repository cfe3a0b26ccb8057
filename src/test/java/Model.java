import java.util.ArrayDeque;
import java.util.ArrayList;
import java.util.Comparator;
import java.util.Deque;
import java.util.List;
import java.util.NoSuchElementException;

/** The document told a second time, with lists, texts and exceptions, for ModelTest to hold answers against. */
final class Model {
    /** Thrown where the document refuses. */
    private static final class Refused extends UnsupportedOperationException {
        final int reason;
        final int detail;

        Refused(int reason, int detail) {
            this.reason = reason;
            this.detail = detail;
        }
    }

    private static final class Napkin {
        int colour;
        int fold;
        int creases;
        int stains;
        int foldings;

        Napkin copy() {
            Napkin copy = new Napkin();
            copy.colour = colour;
            copy.fold = fold;
            copy.creases = creases;
            copy.stains = stains;
            copy.foldings = foldings;
            return copy;
        }
    }

    private static final class Scene {
        final List<Napkin> napkins = new ArrayList<>();
        final List<List<Integer>> tables = new ArrayList<>();
        int[] reads = new int[3];
        int[] puzzles = new int[3];
        int understood;
        int washed;

        Scene() {
            for (int table = 0; table < 3; table++) {
                tables.add(new ArrayList<>());
            }
        }

        Scene copy() {
            Scene copy = new Scene();
            for (Napkin napkin : napkins) {
                copy.napkins.add(napkin.copy());
            }
            for (int table = 0; table < 3; table++) {
                copy.tables.get(table).addAll(tables.get(table));
            }
            copy.reads = reads.clone();
            copy.puzzles = puzzles.clone();
            copy.understood = understood;
            copy.washed = washed;
            return copy;
        }
    }

    private Scene world = new Scene();
    private Scene saved = null;
    private final Deque<Scene> past = new ArrayDeque<>();
    private String buffer = "";
    private String line = "";
    private int error = -1;
    private Refused latest = null;
    private Refused cause = null;

    private interface Change {
        int make();
    }

    private int changed(Change change) {
        Scene before = world.copy();
        try {
            int answer = change.make();
            past.addLast(before);
            if (past.size() > 8) {
                past.removeFirst();
            }
            return answer;
        } catch (Refused refused) {
            latest = refused;
            cause = null;
            throw new UnsupportedOperationException();
        }
    }

    private Napkin at(int napkin) {
        if (napkin < 0 || napkin >= world.napkins.size()) {
            throw new IndexOutOfBoundsException();
        }
        return world.napkins.get(napkin);
    }

    private List<Integer> on(int table) {
        if (table < 0 || table > 2) {
            throw new IndexOutOfBoundsException();
        }
        return world.tables.get(table);
    }

    private int tableWith(int napkin) {
        for (int table = 0; table < 3; table++) {
            if (world.tables.get(table).contains(napkin)) {
                return table;
            }
        }
        return -1;
    }

    private List<Integer> heard(int table) {
        List<Integer> heard = new ArrayList<>();
        for (int napkin : on(table)) {
            if (at(napkin).fold > 0) {
                heard.add(napkin);
            }
        }
        return heard;
    }

    private String words(int table) {
        StringBuilder words = new StringBuilder();
        for (int napkin : heard(table)) {
            words.append(Grammar.FOLDS.charAt(at(napkin).fold));
        }
        return words.toString();
    }

    private int makeNapkin(int colour) {
        if (colour < 0 || colour > 3) {
            throw new IllegalArgumentException();
        }
        if (world.napkins.size() == 10) {
            throw new Refused(1, 10);
        }
        Napkin napkin = new Napkin();
        napkin.colour = colour;
        world.napkins.add(napkin);
        return world.napkins.size() - 1;
    }

    private int makeFold(int napkin, int fold) {
        Napkin it = at(napkin);
        if (fold < 1 || fold > 4) {
            throw new IllegalArgumentException();
        }
        if (it.fold == fold) {
            throw new Refused(2, fold);
        }
        int more = fold == 1 ? 3 : fold == 2 ? 1 : 2;
        if (it.creases + more > 12) {
            throw new Refused(3, it.creases);
        }
        it.fold = fold;
        it.foldings++;
        return it.creases += more;
    }

    private int makeUnfold(int napkin) {
        Napkin it = at(napkin);
        int fold = it.fold;
        if (fold == 0) {
            throw new Refused(2, 0);
        }
        it.fold = 0;
        return fold;
    }

    private int makeLay(int napkin, int table) {
        at(napkin);
        List<Integer> row = on(table);
        if (tableWith(napkin) >= 0) {
            throw new Refused(4, tableWith(napkin));
        }
        if (row.size() == 6) {
            throw new Refused(1, 6);
        }
        row.add(napkin);
        return row.size() - 1;
    }

    private int makeTake(int napkin) {
        at(napkin);
        if (tableWith(napkin) < 0) {
            throw new Refused(5, napkin);
        }
        List<Integer> row = on(tableWith(napkin));
        int place = row.indexOf(napkin);
        row.remove(place);
        return place;
    }

    private int makeMove(int table, int from, int to) {
        List<Integer> row = on(table);
        if (from < 0 || from >= row.size() || to < 0 || to >= row.size()) {
            throw new IndexOutOfBoundsException();
        }
        if (from == to) {
            throw new Refused(2, from);
        }
        int napkin = row.remove(from);
        row.add(to, napkin);
        return napkin;
    }

    private int makeStain(int napkin, int much) {
        Napkin it = at(napkin);
        if (much < 1 || much > 9) {
            throw new IllegalArgumentException();
        }
        if (it.stains + much > 9) {
            throw new Refused(6, it.stains);
        }
        return it.stains += much;
    }

    private int makeWash(int napkin) {
        Napkin it = at(napkin);
        if (tableWith(napkin) >= 0) {
            throw new Refused(4, tableWith(napkin));
        }
        if (it.stains == 0) {
            throw new Refused(7, napkin);
        }
        int had = it.stains;
        it.stains = 0;
        it.fold = 0;
        world.washed += had;
        return had;
    }

    private int makeRead(int table) {
        if (heard(table).isEmpty()) {
            throw new Refused(8, on(table).size());
        }
        int phrases = phrases(table);
        world.reads[table]++;
        world.puzzles[table] += phrases == 0 ? 1 : 0;
        world.understood += phrases;
        return phrases;
    }

    int napkin(int colour) {
        return changed(() -> makeNapkin(colour));
    }

    int fold(int napkin, int fold) {
        return changed(() -> makeFold(napkin, fold));
    }

    int unfold(int napkin) {
        return changed(() -> makeUnfold(napkin));
    }

    int lay(int napkin, int table) {
        return changed(() -> makeLay(napkin, table));
    }

    int take(int napkin) {
        return changed(() -> makeTake(napkin));
    }

    int move(int table, int from, int to) {
        return changed(() -> makeMove(table, from, to));
    }

    int stain(int napkin, int much) {
        return changed(() -> makeStain(napkin, much));
    }

    int wash(int napkin) {
        return changed(() -> makeWash(napkin));
    }

    int host(int table) {
        return changed(() -> makeRead(table));
    }

    int napkinOf(int napkin, int what) {
        Napkin it = at(napkin);
        int table = tableWith(napkin);
        int[] numbers = {
            it.colour, it.fold, it.creases, it.stains, table, table < 0 ? -1 : on(table).indexOf(napkin), it.foldings
        };
        return numberOf(numbers, what);
    }

    private static int numberOf(int[] numbers, int what) {
        if (what < 0 || what >= numbers.length) {
            throw new IllegalArgumentException();
        }
        return numbers[what];
    }

    int tableOf(int table, int what) {
        String words = words(table);
        int[] numbers = {
            on(table).size(), words.length(), words.replaceAll("[^s]", "").length(), words.replaceAll("[^c]", "").length(),
            world.reads[table], world.puzzles[table]
        };
        return numberOf(numbers, what);
    }

    private static int elementOf(List<Integer> list, int index) {
        if (index < 0 || index >= list.size()) {
            throw new NoSuchElementException();
        }
        return list.get(index);
    }

    int seat(int table, int place) {
        return elementOf(on(table), place);
    }

    int said(int table, int number) {
        return elementOf(heard(table), number);
    }

    int wrong(int table) {
        return Grammar.wrongIn(words(table));
    }

    boolean isRight(int table) {
        return Grammar.isSentence(words(table));
    }

    int phrases(int table) {
        return Grammar.phrasesIn(words(table));
    }

    int phraseOf(int table, int phrase, int what) {
        List<Integer> heard = heard(table);
        if (phrase < 0 || phrase >= phrases(table)) {
            throw new NoSuchElementException();
        }
        String[] parts = words(table).split("c");
        int start = 0;
        for (int i = 0; i < phrase; i++) {
            start += parts[i].length() + 1;
        }
        String part = parts[phrase];
        int subjects = part.indexOf('f');
        int mood = heard.get(start + subjects);
        int agrees = 0;
        for (int swan : heard.subList(start, start + subjects)) {
            agrees |= at(swan).colour == at(mood).colour ? 1 : 0;
        }
        return numberOf(new int[] {subjects, mood, part.endsWith("b") ? heard.get(start + subjects + 1) : -1, agrees}, what);
    }

    int next(int table) {
        return Grammar.nextOf(words(table));
    }

    int fewest(int table) {
        int fewest = Grammar.fewestOf(words(table));
        if (fewest > words(table).length()) {
            throw new NoSuchElementException();
        }
        return fewest;
    }

    int doubt(int table) {
        return heard(table).stream().mapToInt(napkin -> at(napkin).stains).sum();
    }

    int sure(int table) {
        int says = heard(table).size();
        if (says == 0) {
            throw new ArithmeticException();
        }
        return (int) ((float) (100 * says - 10 * doubt(table)) / (float) says);
    }

    int clearest(int place) {
        List<Integer> order = new ArrayList<>(List.of(0, 1, 2));
        order.sort(Comparator.comparingInt((Integer table) -> -phrases(table)).thenComparingInt(this::doubt));
        return elementOf(order, place);
    }

    int worn(int place) {
        List<Integer> order = new ArrayList<>();
        for (int napkin = 0; napkin < world.napkins.size(); napkin++) {
            order.add(napkin);
        }
        order.sort(Comparator.comparingInt((Integer napkin) -> -at(napkin).creases)
            .thenComparingInt(napkin -> -at(napkin).stains));
        return elementOf(order, place);
    }

    int type(char character) {
        if (buffer.length() == 60) {
            throw new IllegalStateException();
        }
        buffer += character;
        return buffer.length();
    }

    private int follow(String command) {
        String digits = command.replaceAll("[^0-9]", "");
        int first = digits.charAt(0) - '0';
        int second = digits.length() > 1 ? digits.charAt(1) - '0' : -1;
        switch (command.substring(0, command.indexOf(' '))) {
            case "new": return makeNapkin(first);
            case "fold": return makeFold(first, Grammar.FOLDS.indexOf(command.charAt(6)));
            case "open": return makeUnfold(first);
            case "take": return makeTake(first);
            case "wash": return makeWash(first);
            case "read": return makeRead(first);
            case "lay": return makeLay(first, second);
            case "move": return makeMove(first, second, digits.charAt(2) - '0');
            case "stain": return makeStain(first, second);
            default: throw new IllegalStateException(command);
        }
    }

    int read() {
        String text = buffer;
        buffer = "";
        int found = Form.errorIn(text);
        if (found >= 0) {
            error = found;
            throw new IllegalArgumentException();
        }
        Scene before = world.copy();
        String[] commands = text.split(";");
        for (int number = 0; number < commands.length; number++) {
            try {
                follow(commands[number]);
            } catch (IndexOutOfBoundsException | IllegalArgumentException | Refused thrown) {
                world = before;
                latest = new Refused(9, number);
                cause = thrown instanceof Refused ? (Refused) thrown : null;
                throw new UnsupportedOperationException();
            }
        }
        past.addLast(before);
        if (past.size() > 8) {
            past.removeFirst();
        }
        return commands.length;
    }

    int errorPosition() {
        if (error < 0) {
            throw new NoSuchElementException();
        }
        return error;
    }

    int refusal(boolean isCause, boolean isDetail) {
        Refused told = isCause ? cause : latest;
        if (told == null) {
            throw new NoSuchElementException();
        }
        return isDetail ? told.detail : told.reason;
    }

    int show(int table) {
        StringBuilder text = new StringBuilder();
        for (int napkin : on(table)) {
            text.append(napkin).append(Grammar.FOLDS.charAt(at(napkin).fold)).append(at(napkin).stains > 0 ? "*" : "");
        }
        line = text.toString();
        return line.length();
    }

    int tell(int table) {
        List<String> words = new ArrayList<>();
        for (int napkin : heard(table)) {
            Napkin it = at(napkin);
            String word = it.fold == 4 ? "+" : "SFB".charAt(it.fold - 1) + "" + it.colour;
            words.add(word + (it.stains > 0 ? "?" : ""));
        }
        line = String.join(" ", words);
        return line.length();
    }

    char written(int index) {
        if (index < 0 || index >= line.length()) {
            throw new NoSuchElementException();
        }
        return line.charAt(index);
    }

    int account(int what) {
        int folded = 0;
        int lying = 0;
        int creases = 0;
        int foldings = 0;
        for (int napkin = 0; napkin < world.napkins.size(); napkin++) {
            folded += at(napkin).fold > 0 ? 1 : 0;
            lying += tableWith(napkin) >= 0 ? 1 : 0;
            creases += at(napkin).creases;
            foldings += at(napkin).foldings;
        }
        int right = 0;
        for (int table = 0; table < 3; table++) {
            right += isRight(table) ? 1 : 0;
        }
        int puzzled = world.puzzles[0] + world.puzzles[1] + world.puzzles[2];
        return numberOf(new int[] {
            world.napkins.size(), folded, lying, creases, stains(), right, world.understood, puzzled, foldings, world.washed,
            buffer.length(), past.size()
        }, what);
    }

    private int stains() {
        return world.napkins.stream().mapToInt(napkin -> napkin.stains).sum();
    }

    double meanStains() {
        if (world.napkins.isEmpty()) {
            throw new ArithmeticException();
        }
        return (double) stains() / (double) world.napkins.size();
    }

    float foldedShare() {
        if (world.napkins.isEmpty()) {
            throw new ArithmeticException();
        }
        return (float) account(1) / (float) world.napkins.size();
    }

    int undo() {
        if (past.isEmpty()) {
            throw new IllegalStateException();
        }
        world = past.removeLast();
        return past.size();
    }

    int save() {
        saved = world.copy();
        return saved.napkins.size();
    }

    int restore() {
        if (saved == null) {
            throw new IllegalStateException();
        }
        world = saved.copy();
        past.clear();
        return world.napkins.size();
    }
}
