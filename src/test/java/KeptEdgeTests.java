import java.math.BigInteger;

/** The edges of what is kept and of what is told of all, promises 16 to 19. Each test bears its sentence. */
public final class KeptEdgeTests extends Calls {
    // it is 5 fit, 6 in the end of the first day, 9 of the second; each day has its own merit and falls
    private static final String TEXT = "a09,c19,s25,p37;5";
    private static final String ROTA = "0-0-0-01";

    public static void main(String[] args) {
        imageTellsDays();
        imageKeepsAll();
        imageIsTheLatest();
        imageIsNoLinkToWhatIs();
        restoreLeavesWhatNoImageKeeps();
        restoreOnceKept();
        restoreBehindARefusedCave();
        countsAtFirstAndLater();
        countOfKnownFlaws();
        countOfTheEnd();
        digestOfNothing();
        digestOfAll();
        digestTellsApart();
        theConstants();
        end();
    }

    private static RotaFathers past() {
        RotaFathers x = caveWith(TEXT, ROTA);
        due(10, "day()", x.day() > 0 ? 1 : 0, 1);
        x.found(0, x.count(1));
        x.found(8, x.count(10));
        return x;
    }

    /** "how many DAYS were lived": of none, one, some. */
    private static void imageTellsDays() {
        RotaFathers x = caveOf(TEXT);
        for (int days = 0; days <= 5; days++) {
            due(16, "image()", x.image(), days);
            due(16, "image() again", x.image(), days);
            x.day();
            due(17, "restore()", x.restore(), days);
            due(18, "count(5)", x.count(5), days);
            x.day();
        }
    }

    /** "An IMAGE keeps the ROTA, how FIT it is, what it KNOWS, MERITS, FALLS, DAYS, what is FOUND": each changed alone. */
    private static void imageKeepsAll() {
        kept("a rota", x -> x.rota(7, 3));
        kept("all of the rota", x -> setAll(x, 2));
        kept("nobody", x -> setAll(x, NONE));
        kept("a day", RotaFathers::day);
        kept("some days", x -> x.day() + x.day() + x.day());
        kept("a flaw that it learns", x -> x.rota(7, 3) + x.day());
        kept("a fall", x -> x.rota(5, 3) + x.day() + x.day());
        kept("one found", x -> x.found(3, 3));
        kept("nothing found", RotaFathers::forget);
        kept("others found", x -> x.forget() + x.found(1, 1) + x.found(2, 2) + x.found(3, 3));
        kept("as many others found", x -> x.forget() + x.found(1, 1) + x.found(2, 2));
        kept("all", x -> setAll(x, 3) + x.day() + x.forget() + x.found(7, 0) + x.day());
    }

    private static long setAll(RotaFathers x, int father) {
        long sum = 0;
        for (int shift = 0; shift < 8; shift++) {
            sum += x.rota(shift, father);
        }
        return sum;
    }

    private static void kept(String what, Call change) {
        RotaFathers x = past();
        due(16, "image()", x.image(), 1);
        long before = x.digest();
        change.on(x);
        due(17, "digest() is another by " + what, x.digest() != before ? 1 : 0, 1);
        due(17, "restore()", x.restore(), 1);
        due(17, "digest() as kept, " + what, x.digest(), before);
        RotaFathers y = past();
        y.image();
        alike(17, "all is as kept, " + what, x, y);
    }

    /** "(one; the latest)". */
    private static void imageIsTheLatest() {
        RotaFathers x = past();
        x.image();
        x.day();
        due(16, "image()", x.image(), 2);
        long latest = x.digest();
        x.day();
        due(17, "restore()", x.restore(), 2);
        due(17, "digest()", x.digest(), latest);
        due(17, "restore(), there is no earlier one", x.restore(), 2);
        due(17, "digest()", x.digest(), latest);
    }

    /** "It goes on from the IMAGE": what comes behind restore() is not kept by it, and it may be restored once more. */
    private static void imageIsNoLinkToWhatIs() {
        RotaFathers x = past();
        x.image();
        long kept = x.digest();
        for (int time = 0; time < 3; time++) {
            due(17, "restore(), time " + time, x.restore(), 1);
            due(17, "digest(), time " + time, x.digest(), kept);
            setAll(x, time);
            x.day();
            x.forget();
            x.found(5, 5);
        }
        RotaFathers goesOn = past();
        RotaFathers restored = past();
        restored.image();
        setAll(restored, 2);
        restored.day();
        restored.restore();
        for (int day = 0; day < 3; day++) {
            due(17, "day() goes on", restored.day(), goesOn.day());
            due(17, "digest() goes on", restored.digest(), goesOn.digest());
        }
    }

    /** The page, how often a CAVE was read and how often best() was done are in no IMAGE. */
    private static void restoreLeavesWhatNoImageKeeps() {
        RotaFathers x = past();
        write(x, "f0");
        x.best(0, 0, 0);
        x.image();
        write(x, "1,");
        x.best(0, 0, 0);
        x.best(0, 0, 0);
        due(17, "restore()", x.restore(), 1);
        due(18, "count(7)", x.count(7), 4);
        due(18, "count(8)", x.count(8), 1);
        due(18, "count(9)", x.count(9), 3);
        due(4, "fault()", x.fault(), 4);
        x.blank();
        x.restore();
        due(18, "count(7)", x.count(7), 0);
    }

    /** "STATE: none was kept, or a CAVE was read since (of the same text, too)". */
    private static void restoreOnceKept() {
        RotaFathers x = new RotaFathers();
        due(17, "restore(), no cave", x.restore(), STATE);
        write(x, TEXT).cave();
        due(17, "restore(), none kept", x.restore(), STATE);
        due(16, "image()", x.image(), 0);
        due(17, "restore()", x.restore(), 0);
        write(x, TEXT).cave();
        due(17, "restore(), the same text was read", x.restore(), STATE);
        due(17, "restore(), again", x.restore(), STATE);
        x.day();
        due(16, "image()", x.image(), 1);
        due(17, "restore()", x.restore(), 1);
        write(x, "f01,f01;0").cave();
        due(17, "restore(), another text was read", x.restore(), STATE);
    }

    /** "a CAVE was read since": one that was refused was not read. */
    private static void restoreBehindARefusedCave() {
        RotaFathers x = past();
        x.image();
        x.day();
        due(5, "cave() of an empty page", x.cave(), STATE);
        write(x, "f01,f01;");
        due(5, "cave() of no cave", x.cave(), STATE);
        due(17, "restore()", x.restore(), 1);
        x.blank();
        RotaFathers y = past();
        y.image();
        alike(17, "all is as kept", x, y);
    }

    private static void counts(RotaFathers x, int... want) {
        for (int what = 0; what <= 10; what++) {
            due(18, "count(" + what + ")", x.count(what), want[what]);
        }
    }

    /** "How many: 0 FATHERS ... 10 how FIT it would be in the end of the next DAY (0: no CAVE)". */
    private static void countsAtFirstAndLater() {
        counts(new RotaFathers(), 0, 0, 0, 0, 0, 0, 0, 0, 0, 0, 0);
        RotaFathers x = write(new RotaFathers(), "f01,a19;0");
        counts(x, 0, 0, 0, 0, 0, 0, 0, 9, 0, 0, 0);
        x.cave();
        counts(x, 2, 0, 0, 0, 0, 0, 0, 0, 1, 0, 9);
        setRota(x, "1111000-");
        counts(x, 2, 0, 0, 0, 0, 0, 0, 0, 1, 0, 4);
        // FATHER 1 gains 0, 2, 2, 2; FATHER 0 stands 0, then falls by 2 and by 3
        due(10, "day()", x.day(), 6);
        counts(x, 2, 4, 2, 6, 2, 1, 0, 0, 1, 0, 5);
        x.found(0, 0);
        x.best(5, 9, 0);
        write(x, "f");
        counts(x, 2, 4, 2, 6, 2, 1, 1, 1, 1, 1, 5);
    }

    /** "2 FLAWS that it KNOWS": one that two share is one; 0 and 5 are flaws like any other. */
    private static void countOfKnownFlaws() {
        RotaFathers x = caveWith("f01,c01,s51,p51;5", "--------");
        String[] rotas = {"--------", "0-------", "01------", "0123----", "--------"};
        int[] known = {0, 1, 1, 2, 2};
        for (int i = 0; i < rotas.length; i++) {
            setRota(x, rotas[i]);
            x.day();
            due(18, "count(2), day " + i, x.count(2), known[i]);
        }
    }

    private static void countOfTheEnd() {
        due(18, "count(10) of a page alone", write(new RotaFathers(), TEXT).count(10), 0);
        due(18, "count(10), by SHIFT 7", caveWith("f09,s11;9", "-------0").count(10), 8);
        due(18, "count(10), not by SHIFT 7", caveWith("f09,s11;9", "------0-").count(10), 9);
        due(18, "count(10), 0", caveWith("f09,f19;0", "01010101").count(10), 0);
        RotaFathers x = caveWith("f09,s11;9", "-------0");
        x.day();
        due(18, "count(1) behind the day", x.count(1), 8);
    }

    /** "h is 1021, then for each of these numbers, in order, 31 times h, and it (as longs, wrapping)". */
    private static long wrapped(long... numbers) {
        BigInteger h = BigInteger.valueOf(1021);
        for (long number : numbers) {
            h = h.multiply(BigInteger.valueOf(31)).add(BigInteger.valueOf(number));
        }
        return h.longValue();
    }

    private static void digestOfNothing() {
        due(19, "digest() of a new object", new RotaFathers().digest(), wrapped(0, 0, 0, 0, 0, 0, 0, 0, 0, 0, 0));
        due(19, "digest() of a page", write(new RotaFathers(), " ~").digest(), wrapped(32, 126, 0, 0, 0, 0, 0, 0, 0, 2, 0, 0, 0));
        RotaFathers full = write(new RotaFathers(), "~~~~~~~~~~~~~~~~~~");
        long[] numbers = new long[18 + 11];
        for (int i = 0; i < 18; i++) {
            numbers[i] = 126;
        }
        numbers[18 + 7] = 18;
        due(19, "digest() of a full page", full.digest(), wrapped(numbers));
    }

    /** Of each FATHER about(), of each SHIFT shift(), SWAPS, the page's codes, what count() tells: by hand, two caves. */
    private static void digestOfAll() {
        RotaFathers x = caveOf("f01,a29;9");
        due(19, "digest() of a cave where nobody is", x.digest(), wrapped(joined(
            new long[] {0, 0, 1, 0, 0, 0, 0, 0, 4, 2, 9, 0, 0, 0, 0, 0}, idleRow(), new long[] {0},
            new long[] {2, 9, 0, 0, 0, 0, 0, 0, 1, 0, 9})));
        String page = "a4~";
        RotaFathers y = past();
        write(y, page);
        y.best(0, 0, 0);
        due(19, "swaps(), some", y.swaps() > 0 ? 1 : 0, 1);
        due(19, "digest() of all", y.digest(), wrapped(byCalls(y, page)));
        due(19, "digest() again", y.digest(), wrapped(byCalls(y, page)));
    }

    /** Nobody is there and it stays 9 fit; the ABBOT alone would leave it 8, so one looks right behind the SHIFT. */
    private static long[] idleRow() {
        long[] row = new long[8 * 6];
        for (int s = 0; s < 8; s++) {
            long[] one = {NONE, 9, 0, 0, 1 + 2 + 16, s + 1};
            System.arraycopy(one, 0, row, 6 * s, 6);
        }
        return row;
    }

    private static long[] joined(long[]... rows) {
        int length = 0;
        for (long[] row : rows) {
            length += row.length;
        }
        long[] all = new long[length];
        int place = 0;
        for (long[] row : rows) {
            System.arraycopy(row, 0, all, place, row.length);
            place += row.length;
        }
        return all;
    }

    private static long[] byCalls(RotaFathers x, String page) {
        long[] all = new long[8 * x.count(0) + 48 + 1 + page.length() + 11];
        int place = 0;
        for (int i = 0; i < 8 * x.count(0); i++) {
            all[place++] = x.about(i / 8, i % 8);
        }
        for (int i = 0; i < 48; i++) {
            all[place++] = x.shift(i / 6, i % 6);
        }
        all[place++] = x.swaps();
        for (char c : page.toCharArray()) {
            all[place++] = c;
        }
        for (int what = 0; what <= 10; what++) {
            all[place++] = x.count(what);
        }
        return all;
    }

    /** The page's letters are told each by its code and in their order; a cave's page is empty. */
    private static void digestTellsApart() {
        long ab = write(new RotaFathers(), "ab").digest();
        due(19, "digest() of ba", write(new RotaFathers(), "ba").digest() != ab ? 1 : 0, 1);
        due(19, "digest() of ab", write(new RotaFathers(), "ab").digest(), ab);
        RotaFathers x = write(new RotaFathers(), "abc");
        x.blank();
        due(19, "digest() of ab, written over abc", write(x, "ab").digest(), ab);
        x.blank();
        due(19, "digest() of a blanked page", x.digest(), new RotaFathers().digest());
    }

    private static void theConstants() {
        due(0, "NONE", RotaFathers.NONE, -1);
        due(0, "UNKNOWN", RotaFathers.UNKNOWN, -101);
        due(0, "OUTSIDE", RotaFathers.OUTSIDE, -102);
        due(0, "STATE", RotaFathers.STATE, -103);
        due(0, "FULL", RotaFathers.FULL, -104);
    }
}
