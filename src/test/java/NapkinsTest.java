import java.util.NoSuchElementException;

/** Promises 1 to 13: napkins, tables, hosts, and their numbers. */
public final class NapkinsTest {
    public static void main(String[] args) {
        begins();
        napkinsCome();
        napkinsAreFolded();
        napkinsAreUnfolded();
        napkinsAreLaid();
        napkinsAreTaken();
        napkinsAreMoved();
        napkinsAreStained();
        napkinsAreWashed();
        hostsRead();
        numbersOfNapkins();
        numbersOfTables();
        seats();
        Due.close("NapkinsTest");
    }

    private static void begins() {
        NapkinSyntax x = new NapkinSyntax();
        for (int what = 0; what <= 11; what++) {
            int kind = what;
            Due.is("1: account(" + what + ")", 0, () -> x.account(kind));
        }
        for (int table = 0; table < 3; table++) {
            int on = table;
            Due.is("1: tableOf(t, 0)", 0, () -> x.tableOf(on, 0));
        }
        Due.is("1: isWell()", true, () -> x.isWell());
    }

    private static void napkinsCome() {
        NapkinSyntax x = new NapkinSyntax();
        Due.fails("2: napkin(-1)", IllegalArgumentException.class, () -> x.napkin(-1));
        Due.fails("2: napkin(4)", IllegalArgumentException.class, () -> x.napkin(4));
        Due.fails("2: refusal", NoSuchElementException.class, () -> x.refusal(false, false));
        for (int i = 0; i < 10; i++) {
            int number = i;
            Due.is("2: napkin", number, () -> x.napkin(number % 4));
            Due.is("2: its colour", number % 4, () -> x.napkinOf(number, 0));
            for (int what = 1; what <= 6; what++) {
                int kind = what;
                Due.is("2: at first", what == 4 || what == 5 ? -1 : 0, () -> x.napkinOf(number, kind));
            }
        }
        Due.refuses("2: the 11th", x, 1, 10, () -> x.napkin(0));
        Due.fails("2: colour before refusal", IllegalArgumentException.class, () -> x.napkin(4));
        Due.is("2: account(0)", 10, () -> x.account(0));
    }

    private static void napkinsAreFolded() {
        NapkinSyntax x = new NapkinSyntax();
        x.napkin(0);
        Due.fails("3: napkin -1", IndexOutOfBoundsException.class, () -> x.fold(-1, 1));
        Due.fails("3: napkin 1", IndexOutOfBoundsException.class, () -> x.fold(1, 9));
        Due.fails("3: fold 0", IllegalArgumentException.class, () -> x.fold(0, 0));
        Due.fails("3: fold 5", IllegalArgumentException.class, () -> x.fold(0, 5));
        Due.is("3: swan", 3, () -> x.fold(0, 1));
        Due.refuses("3: swan again", x, 2, 1, () -> x.fold(0, 1));
        Due.is("3: fan", 4, () -> x.fold(0, 2));
        Due.is("3: boat", 6, () -> x.fold(0, 3));
        Due.is("3: crown", 8, () -> x.fold(0, 4));
        Due.is("3: how often", 4, () -> x.napkinOf(0, 6));
        Due.is("3: swan", 11, () -> x.fold(0, 1));
        Due.refuses("3: it is so before creases", x, 2, 1, () -> x.fold(0, 1));
        Due.refuses("3: 13 creases, a boat", x, 3, 11, () -> x.fold(0, 3));
        Due.refuses("3: 13 creases, a crown", x, 3, 11, () -> x.fold(0, 4));
        Due.is("3: 12 creases", 12, () -> x.fold(0, 2));
        Due.refuses("3: 15 creases", x, 3, 12, () -> x.fold(0, 1));
        Due.is("3: the fold stays", 2, () -> x.napkinOf(0, 1));
        Due.is("3: account(8)", 6, () -> x.account(8));
    }

    private static void napkinsAreUnfolded() {
        NapkinSyntax x = new NapkinSyntax();
        x.napkin(0);
        Due.fails("4: napkin 1", IndexOutOfBoundsException.class, () -> x.unfold(1));
        Due.fails("4: napkin -1", IndexOutOfBoundsException.class, () -> x.unfold(-1));
        Due.refuses("4: unfolded already", x, 2, 0, () -> x.unfold(0));
        for (int fold = 1; fold <= 4; fold++) {
            int due = fold;
            x.fold(0, fold);
            Due.is("4: unfold", due, () -> x.unfold(0));
            Due.is("4: then", 0, () -> x.napkinOf(0, 1));
        }
        Due.is("4: creases stay", 8, () -> x.napkinOf(0, 2));
        Due.is("4: foldings stay", 4, () -> x.napkinOf(0, 6));
    }

    private static void napkinsAreLaid() {
        NapkinSyntax x = new NapkinSyntax();
        for (int i = 0; i < 8; i++) {
            x.napkin(0);
        }
        Due.fails("5: napkin 8", IndexOutOfBoundsException.class, () -> x.lay(8, 0));
        Due.fails("5: napkin -1", IndexOutOfBoundsException.class, () -> x.lay(-1, 0));
        Due.fails("5: table 3", IndexOutOfBoundsException.class, () -> x.lay(0, 3));
        Due.fails("5: table -1", IndexOutOfBoundsException.class, () -> x.lay(0, -1));
        for (int i = 0; i < 6; i++) {
            int place = i;
            Due.is("5: lay", place, () -> x.lay(5 - place, 2));
            Due.is("5: its table", 2, () -> x.napkinOf(5 - place, 4));
            Due.is("5: its place", place, () -> x.napkinOf(5 - place, 5));
        }
        Due.refuses("5: a 7th", x, 1, 6, () -> x.lay(6, 2));
        Due.refuses("5: it lies there, before 6", x, 4, 2, () -> x.lay(0, 2));
        Due.refuses("5: it lies elsewhere", x, 4, 2, () -> x.lay(0, 1));
        Due.is("5: another table", 0, () -> x.lay(6, 1));
        Due.refuses("5: it lies on table 1", x, 4, 1, () -> x.lay(6, 0));
    }

    private static void napkinsAreTaken() {
        NapkinSyntax x = new NapkinSyntax();
        Due.lay(x, 0, "....");
        x.napkin(0);
        Due.fails("6: napkin 5", IndexOutOfBoundsException.class, () -> x.take(5));
        Due.fails("6: napkin -1", IndexOutOfBoundsException.class, () -> x.take(-1));
        Due.refuses("6: on none", x, 5, 4, () -> x.take(4));
        Due.is("6: take", 1, () -> x.take(1));
        Due.is("6: it lies on none", -1, () -> x.napkinOf(1, 4));
        Due.is("6: it has no place", -1, () -> x.napkinOf(1, 5));
        Due.is("6: the ones before stay", 0, () -> x.napkinOf(0, 5));
        Due.is("6: the later ones", 1, () -> x.napkinOf(2, 5));
        Due.is("6: the later ones", 2, () -> x.napkinOf(3, 5));
        Due.is("6: napkins on it", 3, () -> x.tableOf(0, 0));
        Due.refuses("6: again", x, 5, 1, () -> x.take(1));
        Due.is("6: laid behind", 3, () -> x.lay(1, 0));
        Due.is("6: the last", 3, () -> x.take(1));
    }

    private static String row(NapkinSyntax x, int table) {
        StringBuilder row = new StringBuilder();
        for (int place = 0; place < x.tableOf(table, 0); place++) {
            row.append(x.seat(table, place));
        }
        return row.toString();
    }

    private static void napkinsAreMoved() {
        NapkinSyntax x = new NapkinSyntax();
        Due.lay(x, 1, ".....");
        Due.fails("7: table 3", IndexOutOfBoundsException.class, () -> x.move(3, 0, 0));
        Due.fails("7: table -1", IndexOutOfBoundsException.class, () -> x.move(-1, 0, 0));
        Due.fails("7: from 5", IndexOutOfBoundsException.class, () -> x.move(1, 5, 0));
        Due.fails("7: from -1", IndexOutOfBoundsException.class, () -> x.move(1, -1, 0));
        Due.fails("7: to 5", IndexOutOfBoundsException.class, () -> x.move(1, 0, 5));
        Due.fails("7: to -1", IndexOutOfBoundsException.class, () -> x.move(1, 0, -1));
        Due.fails("7: an empty table", IndexOutOfBoundsException.class, () -> x.move(0, 0, 0));
        Due.refuses("7: there already", x, 2, 3, () -> x.move(1, 3, 3));
        Due.refuses("7: there already", x, 2, 0, () -> x.move(1, 0, 0));
        Due.is("7: backwards", 3, () -> x.move(1, 3, 1));
        Due.is("7: then", "03124", () -> row(x, 1));
        Due.is("7: forwards", 3, () -> x.move(1, 1, 4));
        Due.is("7: then", "01243", () -> row(x, 1));
        Due.is("7: to the front", 3, () -> x.move(1, 4, 0));
        Due.is("7: then", "30124", () -> row(x, 1));
        Due.is("7: by one", 0, () -> x.move(1, 1, 2));
        Due.is("7: then", "31024", () -> row(x, 1));
        Due.is("7: its place", 2, () -> x.napkinOf(0, 5));
    }

    private static void napkinsAreStained() {
        NapkinSyntax x = new NapkinSyntax();
        x.napkin(0);
        x.napkin(0);
        Due.fails("8: napkin 2", IndexOutOfBoundsException.class, () -> x.stain(2, 0));
        Due.fails("8: napkin -1", IndexOutOfBoundsException.class, () -> x.stain(-1, 1));
        Due.fails("8: 0", IllegalArgumentException.class, () -> x.stain(0, 0));
        Due.fails("8: 10", IllegalArgumentException.class, () -> x.stain(0, 10));
        Due.fails("8: much", IllegalArgumentException.class, () -> x.stain(0, Integer.MAX_VALUE));
        Due.fails("8: little", IllegalArgumentException.class, () -> x.stain(0, Integer.MIN_VALUE));
        Due.is("8: stain", 4, () -> x.stain(0, 4));
        Due.is("8: more", 5, () -> x.stain(0, 1));
        Due.refuses("8: 10 stains", x, 6, 5, () -> x.stain(0, 5));
        Due.is("8: 9 stains", 9, () -> x.stain(0, 4));
        Due.refuses("8: 10 stains", x, 6, 9, () -> x.stain(0, 1));
        Due.is("8: 9 at once", 9, () -> x.stain(1, 9));
    }

    private static void napkinsAreWashed() {
        NapkinSyntax x = new NapkinSyntax();
        x.napkin(0);
        x.napkin(0);
        Due.fails("9: napkin 2", IndexOutOfBoundsException.class, () -> x.wash(2));
        Due.fails("9: napkin -1", IndexOutOfBoundsException.class, () -> x.wash(-1));
        Due.refuses("9: no stains", x, 7, 1, () -> x.wash(1));
        x.fold(1, 3);
        x.stain(1, 6);
        x.lay(1, 2);
        Due.refuses("9: on a table", x, 4, 2, () -> x.wash(1));
        x.take(1);
        Due.is("9: wash", 6, () -> x.wash(1));
        Due.is("9: no stains then", 0, () -> x.napkinOf(1, 3));
        Due.is("9: unfolded then", 0, () -> x.napkinOf(1, 1));
        Due.is("9: creases stay", 2, () -> x.napkinOf(1, 2));
        Due.is("9: foldings stay", 1, () -> x.napkinOf(1, 6));
        Due.is("9: washed away", 6, () -> x.account(9));
        x.lay(1, 2);
        Due.refuses("9: on a table, before no stains", x, 4, 2, () -> x.wash(1));
        x.stain(0, 2);
        Due.is("9: one that is unfolded", 2, () -> x.wash(0));
        Due.is("9: washed away", 8, () -> x.account(9));
    }

    private static void hostsRead() {
        NapkinSyntax x = new NapkinSyntax();
        Due.fails("10: table 3", IndexOutOfBoundsException.class, () -> x.host(3));
        Due.fails("10: table -1", IndexOutOfBoundsException.class, () -> x.host(-1));
        Due.refuses("10: says nothing", x, 8, 0, () -> x.host(0));
        Due.lay(x, 0, "..");
        Due.refuses("10: says nothing", x, 8, 2, () -> x.host(0));
        Due.is("10: refused, not read", 0, () -> x.tableOf(0, 4));
        Due.lay(x, 1, "sfcsf");
        Due.is("10: two phrases", 2, () -> x.host(1));
        Due.is("10: again", 2, () -> x.host(1));
        x.unfold(6);
        Due.is("10: not right", 0, () -> x.host(1));
        Due.is("10: understood", 4, () -> x.account(6));
        Due.is("10: puzzled", 1, () -> x.account(7));
        Due.is("10: read", 3, () -> x.tableOf(1, 4));
        Due.is("10: puzzled by it", 1, () -> x.tableOf(1, 5));
        Due.is("10: not by others", 0, () -> x.tableOf(0, 4));
    }

    private static void numbersOfNapkins() {
        NapkinSyntax x = new NapkinSyntax();
        Due.fails("11: napkin 0", IndexOutOfBoundsException.class, () -> x.napkinOf(0, 9));
        x.napkin(3);
        x.napkin(2);
        x.fold(1, 4);
        x.fold(1, 2);
        x.stain(1, 7);
        x.lay(0, 1);
        x.lay(1, 1);
        int[] due = {2, 2, 3, 7, 1, 1, 2};
        for (int what = 0; what < due.length; what++) {
            int kind = what;
            Due.is("11: napkinOf(1, " + what + ")", due[what], () -> x.napkinOf(1, kind));
        }
        Due.fails("11: what 7", IllegalArgumentException.class, () -> x.napkinOf(1, 7));
        Due.fails("11: what -1", IllegalArgumentException.class, () -> x.napkinOf(1, -1));
        Due.fails("11: napkin -1", IndexOutOfBoundsException.class, () -> x.napkinOf(-1, 0));
        Due.fails("11: napkin 2", IndexOutOfBoundsException.class, () -> x.napkinOf(2, 0));
    }

    private static void numbersOfTables() {
        NapkinSyntax x = new NapkinSyntax();
        Due.lay(x, 2, "s.cscf");
        x.host(2);
        x.fold(5, 3);
        x.host(2);
        int[] due = {6, 5, 2, 2, 2, 2};
        for (int what = 0; what < due.length; what++) {
            int kind = what;
            Due.is("12: tableOf(2, " + what + ")", due[what], () -> x.tableOf(2, kind));
            Due.is("12: tableOf(0, " + what + ")", 0, () -> x.tableOf(0, kind));
        }
        Due.fails("12: what 6", IllegalArgumentException.class, () -> x.tableOf(2, 6));
        Due.fails("12: what -1", IllegalArgumentException.class, () -> x.tableOf(2, -1));
        Due.fails("12: table 3", IndexOutOfBoundsException.class, () -> x.tableOf(3, 9));
        Due.fails("12: table -1", IndexOutOfBoundsException.class, () -> x.tableOf(-1, 0));
    }

    private static void seats() {
        NapkinSyntax x = new NapkinSyntax();
        x.napkin(0);
        Due.lay(x, 1, "s.");
        Due.is("13: seat(1, 0)", 1, () -> x.seat(1, 0));
        Due.is("13: seat(1, 1)", 2, () -> x.seat(1, 1));
        Due.fails("13: place 2", NoSuchElementException.class, () -> x.seat(1, 2));
        Due.fails("13: place -1", NoSuchElementException.class, () -> x.seat(1, -1));
        Due.fails("13: table 3", IndexOutOfBoundsException.class, () -> x.seat(3, -1));
        Due.fails("13: table -1", IndexOutOfBoundsException.class, () -> x.seat(-1, 0));
    }
}
