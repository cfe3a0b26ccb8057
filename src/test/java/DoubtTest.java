import java.util.NoSuchElementException;

/** Promises 23 to 28: doubt, how sure a table is, orders, and isWell. */
public final class DoubtTest {
    public static void main(String[] args) {
        doubts();
        sureness();
        clearestTables();
        wornNapkins();
        Due.close("DoubtTest");
    }

    private static void doubts() {
        NapkinSyntax x = new NapkinSyntax();
        Due.is("23: an empty table", 0, () -> x.doubt(0));
        Due.lay(x, 0, "sfbc.s");
        int[] stains = {1, 2, 3, 4, 9, 5};
        int sum = 0;
        for (int napkin = 0; napkin < stains.length; napkin++) {
            x.stain(napkin, stains[napkin]);
            sum += napkin == 4 ? 0 : stains[napkin];
            int due = sum;
            Due.is("23: doubt", due, () -> x.doubt(0));
            Due.is("24: doubtAgain", due, () -> x.doubtAgain(0));
            Due.is("23: of another", 0, () -> x.doubt(1));
        }
        x.unfold(5);
        Due.is("23: none that is unfolded", 10, () -> x.doubt(0));
        Due.is("24: none that is unfolded", 10, () -> x.doubtAgain(0));
        Due.is("28: isWell", true, () -> x.isWell());
        for (int table : new int[] {-1, 3}) {
            Due.fails("23: table", IndexOutOfBoundsException.class, () -> x.doubt(table));
            Due.fails("24: table", IndexOutOfBoundsException.class, () -> x.doubtAgain(table));
            Due.fails("25: table", IndexOutOfBoundsException.class, () -> x.sure(table));
        }
    }

    private static void sureness() {
        NapkinSyntax x = new NapkinSyntax();
        Due.fails("25: an empty table", ArithmeticException.class, () -> x.sure(2));
        Due.lay(x, 2, ".");
        Due.fails("25: nothing said", ArithmeticException.class, () -> x.sure(2));
        x.fold(0, 1);
        Due.is("25: no doubt", 100, () -> x.sure(2));
        x.stain(0, 9);
        Due.is("25: the least", 10, () -> x.sure(2));
        Due.lay(x, 2, "ss");
        Due.is("25: 70", 70, () -> x.sure(2));
        x.stain(1, 1);
        Due.is("25: 66.67", 66, () -> x.sure(2));
        x.stain(1, 1);
        Due.is("25: 63.33", 63, () -> x.sure(2));
    }

    private static void orderOfTables(NapkinSyntax x, int first, int second, int third) {
        Due.is("26: clearest(0)", first, () -> x.clearest(0));
        Due.is("26: clearest(1)", second, () -> x.clearest(1));
        Due.is("26: clearest(2)", third, () -> x.clearest(2));
    }

    private static void clearestTables() {
        NapkinSyntax x = new NapkinSyntax();
        orderOfTables(x, 0, 1, 2);
        Due.fails("26: place 3", NoSuchElementException.class, () -> x.clearest(3));
        Due.fails("26: place -1", NoSuchElementException.class, () -> x.clearest(-1));
        Due.lay(x, 2, "sf");
        orderOfTables(x, 2, 0, 1);
        Due.lay(x, 0, "s");
        x.stain(2, 1);
        orderOfTables(x, 2, 1, 0);
        Due.lay(x, 1, "sfcsf");
        orderOfTables(x, 1, 2, 0);
        x.stain(3, 9);
        orderOfTables(x, 1, 2, 0);
        Due.lay(x, 0, "f");
        orderOfTables(x, 1, 2, 0);
        x.stain(0, 2);
        orderOfTables(x, 1, 0, 2);
        x.unfold(2);
        x.wash(wipe(x, 2));
        orderOfTables(x, 1, 2, 0);
    }

    /** Takes a napkin from its table, so that it can be washed. */
    private static int wipe(NapkinSyntax x, int napkin) {
        x.take(napkin);
        return napkin;
    }

    private static void wornNapkins() {
        NapkinSyntax x = new NapkinSyntax();
        Due.fails("27: no napkins", NoSuchElementException.class, () -> x.worn(0));
        for (int i = 0; i < 6; i++) {
            x.napkin(0);
        }
        x.fold(1, 2);
        x.fold(3, 1);
        x.fold(4, 3);
        x.fold(4, 2);
        x.unfold(4);
        x.stain(4, 1);
        x.stain(5, 2);
        int[] due = {4, 3, 1, 5, 0, 2};
        for (int place = 0; place < due.length; place++) {
            int at = place;
            Due.is("27: worn(" + place + ")", due[place], () -> x.worn(at));
        }
        Due.fails("27: place 6", NoSuchElementException.class, () -> x.worn(6));
        Due.fails("27: place -1", NoSuchElementException.class, () -> x.worn(-1));
    }
}
