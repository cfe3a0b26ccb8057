import java.util.NoSuchElementException;

/** A syntax of folded napkins; ../shared/DOC.md says what each call promises. */
public final class NapkinSyntax {
    private static final int MAX_NAPKINS = 10;
    private static final int MAX_CREASES = 12;
    private static final int MAX_STAINS = 9;
    private static final int COLOURS = 4;
    private static final int TABLES = 3;
    private static final int ROW = 6;
    private static final int MAX_TYPED = 60;
    private static final int MAX_UNDO = 8;

    private static final int UNFOLDED = 0;
    private static final int SWAN = 1;
    private static final int FAN = 2;
    private static final int BOAT = 3;
    private static final int CROWN = 4;
    private static final int[] CREASES = {0, 3, 1, 2, 2};
    private static final char[] SMALL_LETTERS = {'.', 's', 'f', 'b', 'c'};
    private static final char[] BIG_LETTERS = {'.', 'S', 'F', 'B', '+'};

    private static final int NONE = -1;

    // A verdict on a command: fine, a mistaken argument, or a reason and its detail in one number.
    private static final int FINE = 0;
    private static final int NO_SUCH_ONE = -1;
    private static final int NO_SUCH_NUMBER = -2;
    private static final int DETAILS = 16;

    private static final int IS_FULL = 1;
    private static final int IS_SO_ALREADY = 2;
    private static final int IS_WORN = 3;
    private static final int LIES_ON_TABLE = 4;
    private static final int LIES_ON_NONE = 5;
    private static final int IS_TOO_STAINED = 6;
    private static final int IS_CLEAN = 7;
    private static final int SAYS_NOTHING = 8;
    private static final int IS_IN_TEXT = 9;

    private static final Command[] COMMANDS = Command.values();

    private final Service service = new Service();
    private final State now = service.state;
    private final Sentence sentence = service.sentence;
    private final History history = new History();
    private final Text text = new Text();
    private final Line line = new Line();
    private final int[] before = new int[State.SIZE];
    private final int[] snapshot = new int[State.SIZE];
    private boolean hasSnapshot = false;
    private int malformedAt = NONE;
    private int refused = FINE;
    private int cause = FINE;

    public NapkinSyntax() {
    }

    public int napkin(int colour) throws IllegalArgumentException, UnsupportedOperationException {
        return change(Command.NEW, colour, 0, 0);
    }

    public int fold(int napkin, int fold)
            throws IndexOutOfBoundsException, IllegalArgumentException, UnsupportedOperationException {
        return change(Command.FOLD, napkin, fold, 0);
    }

    public int unfold(int napkin) throws IndexOutOfBoundsException, UnsupportedOperationException {
        return change(Command.OPEN, napkin, 0, 0);
    }

    public int lay(int napkin, int table) throws IndexOutOfBoundsException, UnsupportedOperationException {
        return change(Command.LAY, napkin, table, 0);
    }

    public int take(int napkin) throws IndexOutOfBoundsException, UnsupportedOperationException {
        return change(Command.TAKE, napkin, 0, 0);
    }

    public int move(int table, int from, int to) throws IndexOutOfBoundsException, UnsupportedOperationException {
        return change(Command.MOVE, table, from, to);
    }

    public int stain(int napkin, int much)
            throws IndexOutOfBoundsException, IllegalArgumentException, UnsupportedOperationException {
        return change(Command.STAIN, napkin, much, 0);
    }

    public int wash(int napkin) throws IndexOutOfBoundsException, UnsupportedOperationException {
        return change(Command.WASH, napkin, 0, 0);
    }

    public int host(int table) throws IndexOutOfBoundsException, UnsupportedOperationException {
        return change(Command.READ, table, 0, 0);
    }

    public int napkinOf(int napkin, int what) throws IndexOutOfBoundsException, IllegalArgumentException {
        if (!now.hasNapkin(napkin)) {
            throw new IndexOutOfBoundsException("there is no such napkin");
        }
        switch (what) {
            case 0:
                return now.colourOf(napkin);
            case 1:
                return now.foldOf(napkin);
            case 2:
                return now.creasesOf(napkin);
            case 3:
                return now.stainsOf(napkin);
            case 4:
                return now.tableUnder(napkin);
            case 5:
                return now.placeUnder(napkin);
            case 6:
                return now.foldingsOf(napkin);
            default:
                throw new IllegalArgumentException("what is from 0 to 6");
        }
    }

    public int tableOf(int table, int what) throws IndexOutOfBoundsException, IllegalArgumentException {
        checkTable(table);
        switch (what) {
            case 0:
                return now.laidOn(table);
            case 1:
                return heard(table).size();
            case 2:
                return heard(table).countOf(SWAN);
            case 3:
                return heard(table).countOf(CROWN);
            case 4:
                return now.readingsOf(table);
            case 5:
                return now.puzzlesOf(table);
            default:
                throw new IllegalArgumentException("what is from 0 to 5");
        }
    }

    public int seat(int table, int place) throws IndexOutOfBoundsException, NoSuchElementException {
        checkTable(table);
        if (!now.hasPlace(table, place)) {
            throw new NoSuchElementException("there is no such place");
        }
        return now.seatedAt(table, place);
    }

    public int said(int table, int number) throws IndexOutOfBoundsException, NoSuchElementException {
        checkTable(table);
        int napkin = heard(table).napkinAt(number);
        if (napkin == NONE) {
            throw new NoSuchElementException("there is no such number");
        }
        return napkin;
    }

    public int wrong(int table) throws IndexOutOfBoundsException {
        checkTable(table);
        return heard(table).errorByNapkins();
    }

    public int wrongAgain(int table) throws IndexOutOfBoundsException {
        checkTable(table);
        return heard(table).errorByPhrases();
    }

    public boolean isRight(int table) throws IndexOutOfBoundsException {
        checkTable(table);
        return heard(table).isWhole();
    }

    public int phrases(int table) throws IndexOutOfBoundsException {
        checkTable(table);
        return heard(table).phraseCount();
    }

    public int phraseOf(int table, int phrase, int what)
            throws IndexOutOfBoundsException, NoSuchElementException, IllegalArgumentException {
        checkTable(table);
        Sentence said = heard(table);
        if (phrase < 0 || phrase >= said.phraseCount()) {
            throw new NoSuchElementException("there is no such phrase");
        }
        int start = said.startOf(phrase);
        int mood = said.moodFrom(start);
        switch (what) {
            case 0:
                return mood - start;
            case 1:
                return said.napkinAt(mood);
            case 2:
                return said.isBoatAt(mood + 1) ? said.napkinAt(mood + 1) : NONE;
            case 3:
                return said.isAgreed(start, mood) ? 1 : 0;
            default:
                throw new IllegalArgumentException("what is from 0 to 3");
        }
    }

    public int next(int table) throws IndexOutOfBoundsException {
        checkTable(table);
        return heard(table).followers();
    }

    public int fewest(int table) throws IndexOutOfBoundsException, NoSuchElementException {
        checkTable(table);
        int count = heard(table).fewestBySets();
        if (count == NONE) {
            throw new NoSuchElementException("the table would not be right by any");
        }
        return count;
    }

    public int fewestAgain(int table) throws IndexOutOfBoundsException, NoSuchElementException {
        checkTable(table);
        int count = heard(table).fewestByPoints();
        if (count == NONE) {
            throw new NoSuchElementException("the table would not be right by any");
        }
        return count;
    }

    public int doubt(int table) throws IndexOutOfBoundsException {
        checkTable(table);
        return heard(table).doubtByNapkins();
    }

    public int doubtAgain(int table) throws IndexOutOfBoundsException {
        checkTable(table);
        return heard(table).doubtByFolds();
    }

    public int sure(int table) throws IndexOutOfBoundsException, ArithmeticException {
        checkTable(table);
        Sentence said = heard(table);
        if (said.size() == 0) {
            throw new ArithmeticException("the table says nothing");
        }
        float number = (float) said.size();
        float doubt = (float) said.doubtByNapkins();
        return (int) ((100.0f * number - 10.0f * doubt) / number);
    }

    public int clearest(int place) throws NoSuchElementException {
        for (int table = 0; table < TABLES; table++) {
            if (tablesAheadOf(table) == place) {
                return table;
            }
        }
        throw new NoSuchElementException("there is no such place");
    }

    public int worn(int place) throws NoSuchElementException {
        for (int napkin = 0; napkin < now.napkins(); napkin++) {
            if (napkinsAheadOf(napkin) == place) {
                return napkin;
            }
        }
        throw new NoSuchElementException("there is no such place");
    }

    public boolean isWell() {
        for (int table = 0; table < TABLES; table++) {
            Sentence said = heard(table);
            if (!said.isToldAlike() || said.countOf(UNFOLDED) != 0) {
                return false;
            }
        }
        for (int napkin = 0; napkin < now.napkins(); napkin++) {
            if (now.placesUnder(napkin) > 1) {
                return false;
            }
        }
        return true;
    }

    public int type(char character) throws IllegalStateException {
        if (text.isFull()) {
            throw new IllegalStateException("there are 60 characters");
        }
        text.append(character);
        return text.length();
    }

    public int read() throws IllegalArgumentException, UnsupportedOperationException {
        int error = text.errorAt();
        if (error != NONE) {
            text.empty();
            malformedAt = error;
            throw new IllegalArgumentException("the text is malformed");
        }
        now.copyTo(before);
        int verdict = FINE;
        int number = 0;
        int start = 0;
        Command command = text.commandAt(start);
        while (command != null && verdict == FINE && number < MAX_TYPED) {
            int first = text.argument(command, start, 0);
            int second = text.argument(command, start, 1);
            int third = text.argument(command, start, 2);
            verdict = service.judge(command, first, second, third);
            if (verdict == FINE) {
                service.carryOut(command, first, second, third);
            }
            number++;
            start += command.length() + 1;
            command = text.commandAt(start);
        }
        text.empty();
        if (verdict != FINE) {
            now.copyFrom(before);
            refuse(refusedFor(IS_IN_TEXT, number - 1), Math.max(verdict, FINE));
            throw new UnsupportedOperationException("a command of the text is refused");
        }
        history.push(before);
        return number;
    }

    public int errorPosition() throws NoSuchElementException {
        if (malformedAt == NONE) {
            throw new NoSuchElementException("no text was malformed");
        }
        return malformedAt;
    }

    public int refusal(boolean isCause, boolean isDetail) throws NoSuchElementException {
        int told = isCause ? cause : refused;
        if (told == FINE) {
            throw new NoSuchElementException("nothing was refused, or there is no cause");
        }
        return isDetail ? told % DETAILS : told / DETAILS;
    }

    public int show(int table) throws IndexOutOfBoundsException {
        checkTable(table);
        line.empty();
        for (int place = 0; place < now.laidOn(table); place++) {
            int napkin = now.seatedAt(table, place);
            line.addDigit(napkin);
            line.add(letterIn(SMALL_LETTERS, now.foldOf(napkin)));
            if (now.stainsOf(napkin) > 0) {
                line.add('*');
            }
        }
        return line.length();
    }

    public int tell(int table) throws IndexOutOfBoundsException {
        checkTable(table);
        line.empty();
        Sentence said = heard(table);
        for (int number = 0; number < said.size(); number++) {
            int napkin = said.napkinAt(number);
            if (number > 0) {
                line.add(' ');
            }
            line.add(letterIn(BIG_LETTERS, now.foldOf(napkin)));
            if (now.foldOf(napkin) != CROWN) {
                line.addDigit(now.colourOf(napkin));
            }
            if (now.stainsOf(napkin) > 0) {
                line.add('?');
            }
        }
        return line.length();
    }

    public char written(int index) throws NoSuchElementException {
        if (index < 0 || index >= line.length()) {
            throw new NoSuchElementException("there is no such character");
        }
        return line.at(index);
    }

    public int account(int what) throws IllegalArgumentException {
        switch (what) {
            case 0:
                return now.napkins();
            case 1:
                return now.foldedCount();
            case 2:
                return now.laidCount();
            case 3:
                return now.creasesSum();
            case 4:
                return now.stainsSum();
            case 5:
                return rightTables();
            case 6:
                return now.understood();
            case 7:
                return now.puzzlesSum();
            case 8:
                return now.foldingsSum();
            case 9:
                return now.washedAway();
            case 10:
                return text.length();
            case 11:
                return history.size();
            default:
                throw new IllegalArgumentException("what is from 0 to 11");
        }
    }

    public double meanStains() throws ArithmeticException {
        if (now.napkins() == 0) {
            throw new ArithmeticException("there are no napkins");
        }
        return (double) now.stainsSum() / (double) now.napkins();
    }

    public float foldedShare() throws ArithmeticException {
        if (now.napkins() == 0) {
            throw new ArithmeticException("there are no napkins");
        }
        return (float) now.foldedCount() / (float) now.napkins();
    }

    public int undo() throws IllegalStateException {
        if (history.size() == 0) {
            throw new IllegalStateException("no change can be undone");
        }
        history.pop(before);
        now.copyFrom(before);
        return history.size();
    }

    public int save() {
        now.copyTo(snapshot);
        hasSnapshot = true;
        return now.napkins();
    }

    public int restore() throws IllegalStateException {
        if (!hasSnapshot) {
            throw new IllegalStateException("there is no snapshot");
        }
        now.copyFrom(snapshot);
        history.empty();
        return now.napkins();
    }

    private int change(Command command, int first, int second, int third) {
        int verdict = service.judge(command, first, second, third);
        if (verdict == NO_SUCH_ONE) {
            throw new IndexOutOfBoundsException("there is no such napkin, table or place");
        }
        if (verdict == NO_SUCH_NUMBER) {
            throw new IllegalArgumentException("the number is out of range");
        }
        if (verdict != FINE) {
            refuse(verdict, FINE);
            throw new UnsupportedOperationException("the call is refused");
        }
        now.copyTo(before);
        history.push(before);
        return service.carryOut(command, first, second, third);
    }

    private void refuse(int verdict, int causing) {
        refused = verdict;
        cause = causing;
    }

    private void checkTable(int table) {
        if (!isTable(table)) {
            throw new IndexOutOfBoundsException("there is no such table");
        }
    }

    private Sentence heard(int table) {
        sentence.hear(now, table);
        return sentence;
    }

    private int rightTables() {
        int count = 0;
        for (int table = 0; table < TABLES; table++) {
            if (heard(table).isWhole()) {
                count++;
            }
        }
        return count;
    }

    private int tablesAheadOf(int table) {
        int count = 0;
        for (int other = 0; other < TABLES; other++) {
            if (isTableAhead(other, table)) {
                count++;
            }
        }
        return count;
    }

    private boolean isTableAhead(int one, int other) {
        int phrasesOfOne = heard(one).phraseCount();
        int phrasesOfOther = heard(other).phraseCount();
        if (phrasesOfOne != phrasesOfOther) {
            return phrasesOfOne > phrasesOfOther;
        }
        int doubtOfOne = heard(one).doubtByNapkins();
        int doubtOfOther = heard(other).doubtByNapkins();
        if (doubtOfOne != doubtOfOther) {
            return doubtOfOne < doubtOfOther;
        }
        return one < other;
    }

    private int napkinsAheadOf(int napkin) {
        int count = 0;
        for (int other = 0; other < now.napkins(); other++) {
            if (isNapkinAhead(other, napkin)) {
                count++;
            }
        }
        return count;
    }

    private boolean isNapkinAhead(int one, int other) {
        if (now.creasesOf(one) != now.creasesOf(other)) {
            return now.creasesOf(one) > now.creasesOf(other);
        }
        if (now.stainsOf(one) != now.stainsOf(other)) {
            return now.stainsOf(one) > now.stainsOf(other);
        }
        return one < other;
    }

    private static boolean isTable(int table) {
        return table >= 0 && table < TABLES;
    }

    private static int refusedFor(int reason, int detail) {
        return reason * DETAILS + detail;
    }

    private static char letterIn(char[] letters, int fold) {
        return fold >= 0 && fold < letters.length ? letters[fold] : '.';
    }

    /** The commands of a text; in a form, # stands for a digit and @ for a letter of a fold. */
    private enum Command {
        NEW("new #"),
        FOLD("fold #@"),
        OPEN("open #"),
        TAKE("take #"),
        WASH("wash #"),
        READ("read #"),
        LAY("lay # #"),
        MOVE("move # ##"),
        STAIN("stain #+#");

        private final String form;

        Command(String form) {
            this.form = form;
        }

        int length() {
            return form.length();
        }

        char signAt(int index) {
            return index >= 0 && index < form.length() ? form.charAt(index) : ' ';
        }
    }

    /** All that changes can change, in one row of numbers: so a copy of it is one arraycopy. */
    private static final class State {
        private static final int COLOUR = 0;
        private static final int FOLD = COLOUR + MAX_NAPKINS;
        private static final int CREASE = FOLD + MAX_NAPKINS;
        private static final int STAIN = CREASE + MAX_NAPKINS;
        private static final int FOLDING = STAIN + MAX_NAPKINS;
        private static final int SEAT = FOLDING + MAX_NAPKINS;
        private static final int LAID = SEAT + TABLES * ROW;
        private static final int READING = LAID + TABLES;
        private static final int PUZZLE = READING + TABLES;
        private static final int NAPKINS = PUZZLE + TABLES;
        private static final int UNDERSTOOD = NAPKINS + 1;
        private static final int WASHED = UNDERSTOOD + 1;
        static final int SIZE = WASHED + 1;

        private final int[] cells = new int[SIZE];

        void copyTo(int[] row) {
            if (row.length == SIZE) {
                System.arraycopy(cells, 0, row, 0, SIZE);
            }
        }

        void copyFrom(int[] row) {
            if (row.length == SIZE) {
                System.arraycopy(row, 0, cells, 0, SIZE);
            }
        }

        int napkins() {
            return cells[NAPKINS];
        }

        int understood() {
            return cells[UNDERSTOOD];
        }

        int washedAway() {
            return cells[WASHED];
        }

        boolean hasNapkin(int napkin) {
            return napkin >= 0 && napkin < cells[NAPKINS];
        }

        boolean hasPlace(int table, int place) {
            return place >= 0 && place < laidOn(table);
        }

        int colourOf(int napkin) {
            return ofNapkin(COLOUR, napkin);
        }

        int foldOf(int napkin) {
            return ofNapkin(FOLD, napkin);
        }

        int creasesOf(int napkin) {
            return ofNapkin(CREASE, napkin);
        }

        int stainsOf(int napkin) {
            return ofNapkin(STAIN, napkin);
        }

        int foldingsOf(int napkin) {
            return ofNapkin(FOLDING, napkin);
        }

        int laidOn(int table) {
            return ofTable(LAID, table);
        }

        int readingsOf(int table) {
            return ofTable(READING, table);
        }

        int puzzlesOf(int table) {
            return ofTable(PUZZLE, table);
        }

        int seatedAt(int table, int place) {
            return isSeat(table, place) ? cells[SEAT + table * ROW + place] : NONE;
        }

        int tableUnder(int napkin) {
            int seat = seatUnder(napkin);
            return seat != NONE ? seat / ROW : NONE;
        }

        int placeUnder(int napkin) {
            int seat = seatUnder(napkin);
            return seat != NONE ? seat % ROW : NONE;
        }

        int placesUnder(int napkin) {
            int count = 0;
            for (int table = 0; table < TABLES; table++) {
                for (int place = 0; place < laidOn(table); place++) {
                    if (seatedAt(table, place) == napkin) {
                        count++;
                    }
                }
            }
            return count;
        }

        int foldedCount() {
            int count = 0;
            for (int napkin = 0; napkin < napkins(); napkin++) {
                if (foldOf(napkin) != UNFOLDED) {
                    count++;
                }
            }
            return count;
        }

        int laidCount() {
            return sumOf(LAID, TABLES);
        }

        int creasesSum() {
            return sumOf(CREASE, MAX_NAPKINS);
        }

        int stainsSum() {
            return sumOf(STAIN, MAX_NAPKINS);
        }

        int foldingsSum() {
            return sumOf(FOLDING, MAX_NAPKINS);
        }

        int puzzlesSum() {
            return sumOf(PUZZLE, TABLES);
        }

        int addNapkin(int colour) {
            int napkin = napkins();
            if (napkin < MAX_NAPKINS) {
                cells[NAPKINS] = napkin + 1;
                setOfNapkin(COLOUR, napkin, colour);
            }
            return napkin;
        }

        int foldTo(int napkin, int fold, int creases) {
            int sum = creasesOf(napkin) + creases;
            setOfNapkin(FOLD, napkin, fold);
            setOfNapkin(CREASE, napkin, sum);
            setOfNapkin(FOLDING, napkin, foldingsOf(napkin) + 1);
            return sum;
        }

        int open(int napkin) {
            int fold = foldOf(napkin);
            setOfNapkin(FOLD, napkin, UNFOLDED);
            return fold;
        }

        int addStains(int napkin, int much) {
            int sum = stainsOf(napkin) + much;
            setOfNapkin(STAIN, napkin, sum);
            return sum;
        }

        int clean(int napkin) {
            int stains = stainsOf(napkin);
            setOfNapkin(STAIN, napkin, 0);
            setOfNapkin(FOLD, napkin, UNFOLDED);
            cells[WASHED] += stains;
            return stains;
        }

        int addLast(int napkin, int table) {
            int place = laidOn(table);
            insert(table, place, napkin);
            return place;
        }

        int remove(int napkin) {
            int place = placeUnder(napkin);
            removeAt(tableUnder(napkin), place);
            return place;
        }

        int shift(int table, int from, int to) {
            int napkin = seatedAt(table, from);
            removeAt(table, from);
            insert(table, to, napkin);
            return napkin;
        }

        void noteReading(int table, int phrases) {
            setOfTable(READING, table, readingsOf(table) + 1);
            if (phrases == 0) {
                setOfTable(PUZZLE, table, puzzlesOf(table) + 1);
            }
            cells[UNDERSTOOD] += phrases;
        }

        private void insert(int table, int place, int napkin) {
            int laid = laidOn(table);
            for (int later = laid; later > place; later--) {
                setSeat(table, later, seatedAt(table, later - 1));
            }
            setSeat(table, place, napkin);
            setOfTable(LAID, table, laid + 1);
        }

        private void removeAt(int table, int place) {
            int laid = laidOn(table);
            for (int later = place + 1; later < laid; later++) {
                setSeat(table, later - 1, seatedAt(table, later));
            }
            setOfTable(LAID, table, laid - 1);
        }

        // One number for the table and the place: those of table 0 come first.
        private int seatUnder(int napkin) {
            for (int seat = 0; seat < TABLES * ROW; seat++) {
                if (seat % ROW < cells[LAID + seat / ROW] && cells[SEAT + seat] == napkin) {
                    return seat;
                }
            }
            return NONE;
        }

        private int sumOf(int first, int count) {
            int sum = 0;
            for (int index = first; index < first + count && index < SIZE; index++) {
                sum += cells[index];
            }
            return sum;
        }

        private int ofNapkin(int first, int napkin) {
            return napkin >= 0 && napkin < MAX_NAPKINS ? cells[first + napkin] : 0;
        }

        private void setOfNapkin(int first, int napkin, int number) {
            if (napkin >= 0 && napkin < MAX_NAPKINS) {
                cells[first + napkin] = number;
            }
        }

        private int ofTable(int first, int table) {
            return table >= 0 && table < TABLES ? cells[first + table] : 0;
        }

        private void setOfTable(int first, int table, int number) {
            if (table >= 0 && table < TABLES) {
                cells[first + table] = number;
            }
        }

        private void setSeat(int table, int place, int napkin) {
            if (isSeat(table, place)) {
                cells[SEAT + table * ROW + place] = napkin;
            }
        }

        private static boolean isSeat(int table, int place) {
            return table >= 0 && table < TABLES && place >= 0 && place < ROW;
        }
    }

    /** What a table says; the points of a sentence are where one can be after a napkin of it. */
    private static final class Sentence {
        private static final int AT_START = 0;
        private static final int IN_SUBJECTS = 1;
        private static final int AFTER_MOOD = 2;
        private static final int AFTER_OBJECT = 3;
        private static final int POINTS = 4;
        private static final int FAR = 1000;

        private final int[] napkins = new int[ROW];
        private final int[] folds = new int[ROW];
        private final int[] colours = new int[ROW];
        private final int[] stains = new int[ROW];
        private final int[] costs = new int[POINTS];
        private final int[] laterCosts = new int[POINTS];
        private int size = 0;

        void hear(State state, int table) {
            size = 0;
            for (int place = 0; place < state.laidOn(table); place++) {
                int napkin = state.seatedAt(table, place);
                if (state.foldOf(napkin) != UNFOLDED && size < ROW) {
                    napkins[size] = napkin;
                    folds[size] = state.foldOf(napkin);
                    colours[size] = state.colourOf(napkin);
                    stains[size] = state.stainsOf(napkin);
                    size++;
                }
            }
        }

        int size() {
            return size;
        }

        int napkinAt(int number) {
            return isNumber(number) ? napkins[number] : NONE;
        }

        boolean isBoatAt(int number) {
            return foldAt(number) == BOAT;
        }

        int countOf(int fold) {
            int count = 0;
            for (int number = 0; number < size; number++) {
                if (foldAt(number) == fold) {
                    count++;
                }
            }
            return count;
        }

        int errorByNapkins() {
            int point = AT_START;
            for (int number = 0; number < size; number++) {
                point = pointAfter(point, foldAt(number));
                if (point == NONE) {
                    return number;
                }
            }
            return isEnd(point) ? NONE : size;
        }

        int errorByPhrases() {
            int start = 0;
            for (int phrase = 0; phrase <= size; phrase++) {
                int end = crownFrom(start);
                int error = errorInPhrase(start, end);
                if (error != NONE || end == size) {
                    return error;
                }
                start = end + 1;
            }
            return NONE;
        }

        boolean isWhole() {
            return errorByNapkins() == NONE;
        }

        boolean isToldAlike() {
            return errorByNapkins() == errorByPhrases()
                    && fewestBySets() == fewestByPoints()
                    && doubtByNapkins() == doubtByFolds();
        }

        int phraseCount() {
            return errorByNapkins() == NONE ? countOf(CROWN) + 1 : 0;
        }

        int startOf(int phrase) {
            int start = 0;
            for (int crowns = 0; crowns < phrase && start < size; crowns++) {
                start = crownFrom(start) + 1;
            }
            return start;
        }

        int moodFrom(int start) {
            int number = start;
            while (number < size && foldAt(number) == SWAN) {
                number++;
            }
            return number;
        }

        boolean isAgreed(int start, int mood) {
            for (int number = start; number < mood; number++) {
                if (colourAt(number) == colourAt(mood)) {
                    return true;
                }
            }
            return false;
        }

        int followers() {
            int point = pointAtEnd(0);
            int set = 0;
            for (int fold = SWAN; fold <= CROWN; fold++) {
                if (pointAfter(point, fold) != NONE) {
                    set |= 1 << fold;
                }
            }
            return set;
        }

        int fewestBySets() {
            int fewest = NONE;
            for (int opened = 0; opened < 1 << ROW && opened < 1 << size; opened++) {
                int count = Integer.bitCount(opened);
                if (isEnd(pointAtEnd(opened)) && (fewest == NONE || count < fewest)) {
                    fewest = count;
                }
            }
            return fewest;
        }

        int fewestByPoints() {
            for (int point = 0; point < POINTS; point++) {
                costs[point] = point == AT_START ? 0 : FAR;
            }
            for (int number = 0; number < size; number++) {
                goOnWith(foldAt(number));
            }
            int fewest = Math.min(costs[AFTER_MOOD], costs[AFTER_OBJECT]);
            return fewest < FAR ? fewest : NONE;
        }

        int doubtByNapkins() {
            int doubt = 0;
            for (int number = 0; number < size; number++) {
                doubt += stainsAt(number);
            }
            return doubt;
        }

        int doubtByFolds() {
            int doubt = 0;
            for (int fold = SWAN; fold <= CROWN; fold++) {
                doubt += stainsOfAll(fold);
            }
            return doubt;
        }

        private int stainsOfAll(int fold) {
            int sum = 0;
            for (int number = 0; number < size; number++) {
                if (foldAt(number) == fold) {
                    sum += stainsAt(number);
                }
            }
            return sum;
        }

        private void goOnWith(int fold) {
            for (int point = 0; point < POINTS; point++) {
                laterCosts[point] = costs[point] + 1;
            }
            for (int point = 0; point < POINTS; point++) {
                int after = pointAfter(point, fold);
                if (after >= 0 && after < POINTS) {
                    laterCosts[after] = Math.min(laterCosts[after], costs[point]);
                }
            }
            System.arraycopy(laterCosts, 0, costs, 0, POINTS);
        }

        private int pointAtEnd(int opened) {
            int point = AT_START;
            for (int number = 0; number < size; number++) {
                if ((opened >> number & 1) == 0) {
                    point = pointAfter(point, foldAt(number));
                }
            }
            return point;
        }

        private int crownFrom(int start) {
            int number = start;
            while (number < size && foldAt(number) != CROWN) {
                number++;
            }
            return number;
        }

        private int errorInPhrase(int start, int end) {
            int mood = moodFrom(start);
            if (mood == start || mood >= end || foldAt(mood) != FAN) {
                return mood;
            }
            int after = mood + 1;
            if (after < end && foldAt(after) == BOAT) {
                after++;
            }
            return after < end ? after : NONE;
        }

        private int foldAt(int number) {
            return number >= 0 && number < size && number < ROW ? folds[number] : UNFOLDED;
        }

        private int colourAt(int number) {
            return isNumber(number) ? colours[number] : NONE;
        }

        private int stainsAt(int number) {
            return isNumber(number) ? stains[number] : 0;
        }

        private boolean isNumber(int number) {
            return number >= 0 && number < size && number < ROW;
        }

        private static boolean isEnd(int point) {
            return point == AFTER_MOOD || point == AFTER_OBJECT;
        }

        private static int pointAfter(int point, int fold) {
            switch (fold) {
                case SWAN:
                    return point == AT_START || point == IN_SUBJECTS ? IN_SUBJECTS : NONE;
                case FAN:
                    return point == IN_SUBJECTS ? AFTER_MOOD : NONE;
                case BOAT:
                    return point == AFTER_MOOD ? AFTER_OBJECT : NONE;
                case CROWN:
                    return point == AFTER_MOOD || point == AFTER_OBJECT ? AT_START : NONE;
                default:
                    return NONE;
            }
        }
    }

    /** Judges commands and carries them out; called for the face's calls and for texts alike. */
    private static final class Service {
        private final State state = new State();
        private final Sentence sentence = new Sentence();

        int judge(Command command, int first, int second, int third) {
            switch (command) {
                case NEW:
                    return judgeNew(first);
                case FOLD:
                    return judgeFold(first, second);
                case OPEN:
                    return judgeOpen(first);
                case LAY:
                    return judgeLay(first, second);
                case TAKE:
                    return judgeTake(first);
                case MOVE:
                    return judgeMove(first, second, third);
                case STAIN:
                    return judgeStain(first, second);
                case WASH:
                    return judgeWash(first);
                default:
                    return judgeRead(first);
            }
        }

        int carryOut(Command command, int first, int second, int third) {
            switch (command) {
                case NEW:
                    return state.addNapkin(first);
                case FOLD:
                    return state.foldTo(first, second, creasesFor(second));
                case OPEN:
                    return state.open(first);
                case LAY:
                    return state.addLast(first, second);
                case TAKE:
                    return state.remove(first);
                case MOVE:
                    return state.shift(first, second, third);
                case STAIN:
                    return state.addStains(first, second);
                case WASH:
                    return state.clean(first);
                default:
                    return readByHost(first);
            }
        }

        private int readByHost(int table) {
            sentence.hear(state, table);
            int phrases = sentence.phraseCount();
            state.noteReading(table, phrases);
            return phrases;
        }

        private int judgeNew(int colour) {
            if (colour < 0 || colour >= COLOURS) {
                return NO_SUCH_NUMBER;
            }
            return state.napkins() < MAX_NAPKINS ? FINE : refusedFor(IS_FULL, MAX_NAPKINS);
        }

        private int judgeFold(int napkin, int fold) {
            if (!state.hasNapkin(napkin)) {
                return NO_SUCH_ONE;
            }
            if (fold < SWAN || fold > CROWN) {
                return NO_SUCH_NUMBER;
            }
            if (state.foldOf(napkin) == fold) {
                return refusedFor(IS_SO_ALREADY, fold);
            }
            int creases = state.creasesOf(napkin);
            return creases + creasesFor(fold) <= MAX_CREASES ? FINE : refusedFor(IS_WORN, creases);
        }

        private int judgeOpen(int napkin) {
            if (!state.hasNapkin(napkin)) {
                return NO_SUCH_ONE;
            }
            return state.foldOf(napkin) != UNFOLDED ? FINE : refusedFor(IS_SO_ALREADY, UNFOLDED);
        }

        private int judgeLay(int napkin, int table) {
            if (!state.hasNapkin(napkin) || !isTable(table)) {
                return NO_SUCH_ONE;
            }
            if (state.tableUnder(napkin) != NONE) {
                return refusedFor(LIES_ON_TABLE, state.tableUnder(napkin));
            }
            return state.laidOn(table) < ROW ? FINE : refusedFor(IS_FULL, ROW);
        }

        private int judgeTake(int napkin) {
            if (!state.hasNapkin(napkin)) {
                return NO_SUCH_ONE;
            }
            return state.tableUnder(napkin) != NONE ? FINE : refusedFor(LIES_ON_NONE, napkin);
        }

        private int judgeMove(int table, int from, int to) {
            if (!isTable(table) || !state.hasPlace(table, from) || !state.hasPlace(table, to)) {
                return NO_SUCH_ONE;
            }
            return from != to ? FINE : refusedFor(IS_SO_ALREADY, to);
        }

        private int judgeStain(int napkin, int much) {
            if (!state.hasNapkin(napkin)) {
                return NO_SUCH_ONE;
            }
            if (much < 1 || much > MAX_STAINS) {
                return NO_SUCH_NUMBER;
            }
            int stains = state.stainsOf(napkin);
            return stains + much <= MAX_STAINS ? FINE : refusedFor(IS_TOO_STAINED, stains);
        }

        private int judgeWash(int napkin) {
            if (!state.hasNapkin(napkin)) {
                return NO_SUCH_ONE;
            }
            if (state.tableUnder(napkin) != NONE) {
                return refusedFor(LIES_ON_TABLE, state.tableUnder(napkin));
            }
            return state.stainsOf(napkin) > 0 ? FINE : refusedFor(IS_CLEAN, napkin);
        }

        private int judgeRead(int table) {
            if (!isTable(table)) {
                return NO_SUCH_ONE;
            }
            sentence.hear(state, table);
            return sentence.size() > 0 ? FINE : refusedFor(SAYS_NOTHING, state.laidOn(table));
        }

        private static int creasesFor(int fold) {
            return fold >= 0 && fold < CREASES.length ? CREASES[fold] : 0;
        }
    }

    /** The states before the latest changes, the oldest first, one behind the other. */
    private static final class History {
        private final int[] cells = new int[MAX_UNDO * State.SIZE];
        private int size = 0;

        int size() {
            return size;
        }

        void empty() {
            size = 0;
        }

        void push(int[] row) {
            if (size >= MAX_UNDO) {
                System.arraycopy(cells, State.SIZE, cells, 0, (MAX_UNDO - 1) * State.SIZE);
                size = MAX_UNDO - 1;
            }
            if (size >= 0 && row.length == State.SIZE) {
                System.arraycopy(row, 0, cells, size * State.SIZE, State.SIZE);
                size++;
            }
        }

        void pop(int[] row) {
            if (size > 0 && size <= MAX_UNDO && row.length == State.SIZE) {
                size--;
                System.arraycopy(cells, size * State.SIZE, row, 0, State.SIZE);
            }
        }
    }

    /** The input buffer, and the form of the commands in it. */
    private static final class Text {
        private static final char DIGIT = '#';
        private static final char LETTER = '@';

        private final char[] signs = new char[MAX_TYPED];
        private int length = 0;

        int length() {
            return length;
        }

        boolean isFull() {
            return length >= MAX_TYPED;
        }

        void empty() {
            length = 0;
        }

        void append(char sign) {
            if (length >= 0 && length < MAX_TYPED) {
                signs[length] = sign;
                length++;
            }
        }

        int errorAt() {
            int start = 0;
            for (int number = 0; number <= MAX_TYPED; number++) {
                Command command = commandAt(start);
                if (command == null) {
                    return start + longestMatch(start);
                }
                int end = start + command.length();
                if (end >= length) {
                    return NONE;
                }
                if (signAt(end) != ';') {
                    return end;
                }
                start = end + 1;
            }
            return NONE;
        }

        Command commandAt(int start) {
            for (Command command : COMMANDS) {
                if (matched(command, start) == command.length()) {
                    return command;
                }
            }
            return null;
        }

        int argument(Command command, int start, int number) {
            int seen = 0;
            for (int index = 0; index < command.length(); index++) {
                char form = command.signAt(index);
                if (form == DIGIT || form == LETTER) {
                    if (seen == number) {
                        return valueOf(form, signAt(start + index));
                    }
                    seen++;
                }
            }
            return 0;
        }

        private int longestMatch(int start) {
            int longest = 0;
            for (Command command : COMMANDS) {
                longest = Math.max(longest, matched(command, start));
            }
            return longest;
        }

        private int matched(Command command, int start) {
            int count = 0;
            while (count < command.length() && start + count < length
                    && isOfForm(command.signAt(count), signAt(start + count))) {
                count++;
            }
            return count;
        }

        private char signAt(int index) {
            return index >= 0 && index < length && index < MAX_TYPED ? signs[index] : ' ';
        }

        private static boolean isOfForm(char form, char sign) {
            if (form == DIGIT || form == LETTER) {
                return valueOf(form, sign) != NONE;
            }
            return form == sign;
        }

        private static int valueOf(char form, char sign) {
            if (form == DIGIT) {
                return sign >= '0' && sign <= '9' ? sign - '0' : NONE;
            }
            for (int fold = SWAN; fold <= CROWN; fold++) {
                if (letterIn(SMALL_LETTERS, fold) == sign) {
                    return fold;
                }
            }
            return NONE;
        }
    }

    /** The line that was written latest. */
    private static final class Line {
        // Six napkins with three characters each, and a blank between two.
        private static final int MAX_LENGTH = 23;

        private final char[] signs = new char[MAX_LENGTH];
        private int length = 0;

        int length() {
            return length;
        }

        void empty() {
            length = 0;
        }

        void add(char sign) {
            if (length >= 0 && length < MAX_LENGTH) {
                signs[length] = sign;
                length++;
            }
        }

        void addDigit(int digit) {
            add((char) ('0' + digit));
        }

        char at(int index) {
            return index >= 0 && index < length && index < MAX_LENGTH ? signs[index] : ' ';
        }
    }
}
