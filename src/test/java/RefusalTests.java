/**
 * Each refused call: its answer, of several the first as told, and that nothing has changed by it.
 * It is held, in objects of many pasts, against a twin of the same past without the call.
 */
public final class RefusalTests extends Calls {
    private static final Past[] WITHOUT_CAVE = {
        RotaFathers::new, () -> write(new RotaFathers(), "f01,c1"), () -> write(new RotaFathers(), "f01,c11;5")};
    private static final Past[] WITH_CAVE = {
        () -> caveOf("f01,c11;5"), RefusalTests::muchDone, RefusalTests::allFound, RefusalTests::allBestsDone,
        RefusalTests::readAgain};
    private static final Past[] ALL = joined(WITHOUT_CAVE, WITH_CAVE);

    public static void main(String[] args) {
        letter();
        cave();
        about();
        as();
        rota();
        shift();
        day();
        best();
        bestTooOften();
        swaps();
        found();
        months();
        imageAndRestore();
        count();
        end();
    }

    /** A page begun, an IMAGE of an earlier day, some of all that can be kept; what is FOUND is so. */
    private static RotaFathers muchDone() {
        RotaFathers x = caveWith("f04,c16,s25,p37;5", "0123-10-");
        x.day();
        x.found(4, 4);
        x.best(1, 2, 10);
        x.image();
        setRota(x, "1-203-03");
        x.day();
        x.forget();
        x.found(0, x.count(1));
        x.found(8, x.count(10));
        return write(x, "s33,");
    }

    private static RotaFathers allFound() {
        RotaFathers x = caveWith("a04,c16,p37;0", "01201201");
        for (int s = 0; s < 6; s++) {
            x.found(s, x.shift(s, 1));
        }
        x.image();
        return x;
    }

    private static RotaFathers allBestsDone() {
        RotaFathers x = caveWith("f09,f19;0", "01010101");
        for (int i = 0; i < 30; i++) {
            x.best(i % 6, i % 10, 0);
        }
        return x;
    }

    private static RotaFathers readAgain() {
        RotaFathers x = caveWith("a04,c16,p37;3", "01201201");
        x.day();
        x.image();
        write(x, "a04,c16,p37;3").cave();
        return x;
    }

    private static Past fullPage(Past past) {
        return () -> {
            RotaFathers x = past.make();
            for (int i = x.count(7); i < 18; i++) {
                x.letter('a');
            }
            return x;
        };
    }

    private static void letter() {
        for (int code : outside(32, 126)) {
            refused(2, "letter(" + code + ")", OUTSIDE, x -> x.letter(code), ALL);
            refused(2, "letter(" + code + ") on a full page", OUTSIDE, x -> x.letter(code), fullPage(ALL[0]), fullPage(ALL[4]));
        }
        for (int code : new int[] {32, 'f', 126}) {
            for (Past past : ALL) {
                refused(2, "letter(" + code + ")", FULL, x -> x.letter(code), fullPage(past));
            }
        }
    }

    private static void cave() {
        String[] pages = {"", " ", "f", "f01", "f01;5", "f01,", "f01,c11", "f01,c11;", "f01,c11;99", "f01,c11;9;", "f01,c11;9 ",
            "f01c11;9", "f01,,c11;9", "f01;c11;9", ",f01,c11;9", " f01,c11;9", "f01,c11,;9", "f01,c11:9", "f01,c11;x",
            "F01,c11;9", "b01,c11;9", "f61,c11;9", "f00,c11;9", "f01,c10;9", "f01,c61;9", "f01,c11,s21,p31,a41;",
            "f01,c11,s21,p31,9", "f01,c11,s21,p31;99"};
        for (String page : pages) {
            for (Past past : ALL) {
                Past withPage = () -> {
                    RotaFathers x = past.make();
                    x.blank();
                    return write(x, page);
                };
                refused(5, "cave() of " + page, STATE, RotaFathers::cave, withPage);
            }
        }
    }

    private static void about() {
        for (int what : new int[] {0, 7, 8, -1, MIN, MAX}) {
            refused(6, "about(0, " + what + ")", UNKNOWN, x -> x.about(0, what), WITHOUT_CAVE);
        }
        for (Past past : WITH_CAVE) {
            int fathers = past.make().count(0);
            for (int father : outside(0, fathers - 1)) {
                refused(6, "about(" + father + ", 0)", UNKNOWN, x -> x.about(father, 0), past);
                refused(6, "about(" + father + ", 7)", UNKNOWN, x -> x.about(father, 7), past);
                refused(6, "about(" + father + ", 8), both", UNKNOWN, x -> x.about(father, 8), past);
            }
            for (int what : outside(0, 7)) {
                refused(6, "about(0, " + what + ")", OUTSIDE, x -> x.about(0, what), past);
                refused(6, "about(the last, " + what + ")", OUTSIDE, x -> x.about(fathers - 1, what), past);
            }
        }
    }

    private static void as() {
        for (int kind : new int[] {0, 4, 5, -1, MIN, MAX}) {
            refused(7, "as(0, " + kind + ")", UNKNOWN, x -> x.as(0, kind), WITHOUT_CAVE);
        }
        for (Past past : WITH_CAVE) {
            int fathers = past.make().count(0);
            for (int father : outside(0, fathers - 1)) {
                refused(7, "as(" + father + ", 0)", UNKNOWN, x -> x.as(father, 0), past);
                refused(7, "as(" + father + ", 5), both", UNKNOWN, x -> x.as(father, 5), past);
            }
            for (int kind : outside(0, 4)) {
                refused(7, "as(0, " + kind + ")", OUTSIDE, x -> x.as(0, kind), past);
                refused(7, "as(the last, " + kind + ")", OUTSIDE, x -> x.as(fathers - 1, kind), past);
            }
        }
    }

    private static void rota() {
        for (int father : new int[] {NONE, 0, 3, 4, MIN}) {
            refused(8, "rota(0, " + father + ")", UNKNOWN, x -> x.rota(0, father), WITHOUT_CAVE);
        }
        for (Past past : WITH_CAVE) {
            int fathers = past.make().count(0);
            for (int shift : outside(0, 7)) {
                refused(8, "rota(" + shift + ", 0)", UNKNOWN, x -> x.rota(shift, 0), past);
                refused(8, "rota(" + shift + ", -1)", UNKNOWN, x -> x.rota(shift, NONE), past);
                refused(8, "rota(" + shift + ", 4)", UNKNOWN, x -> x.rota(shift, 4), past);
            }
            for (int father : outside(NONE, fathers - 1)) {
                refused(8, "rota(0, " + father + ")", UNKNOWN, x -> x.rota(0, father), past);
                refused(8, "rota(7, " + father + ")", UNKNOWN, x -> x.rota(7, father), past);
            }
        }
    }

    private static void shift() {
        for (int what : new int[] {0, 5, 6, -1, MIN, MAX}) {
            refused(9, "shift(0, " + what + ")", UNKNOWN, x -> x.shift(0, what), WITHOUT_CAVE);
        }
        for (int shift : outside(0, 7)) {
            for (int what = 0; what <= 6; what++) {
                int asked = what;
                refused(9, "shift(" + shift + ", " + what + ")", UNKNOWN, x -> x.shift(shift, asked), WITH_CAVE);
            }
        }
        for (int what : outside(0, 5)) {
            refused(9, "shift(0, " + what + ")", OUTSIDE, x -> x.shift(0, what), WITH_CAVE);
            refused(9, "shift(7, " + what + ")", OUTSIDE, x -> x.shift(7, what), WITH_CAVE);
        }
    }

    private static void day() {
        refused(10, "day()", STATE, RotaFathers::day, WITHOUT_CAVE);
    }

    private static void best() {
        refused(11, "best(0, 0, 0)", UNKNOWN, x -> x.best(0, 0, 0), WITHOUT_CAVE);
        refused(11, "best(5, 10, 0)", UNKNOWN, x -> x.best(5, 10, 0), WITHOUT_CAVE);
        refused(11, "best(0, 0, 9)", UNKNOWN, x -> x.best(0, 0, 9), WITHOUT_CAVE);
        for (int shift : outside(0, 5)) {
            refused(11, "best(" + shift + ", 0, 0)", UNKNOWN, x -> x.best(shift, 0, 0), WITH_CAVE);
            refused(11, "best(" + shift + ", 10, 0)", UNKNOWN, x -> x.best(shift, 10, 0), WITH_CAVE);
            refused(11, "best(" + shift + ", 0, 13)", UNKNOWN, x -> x.best(shift, 0, 13), WITH_CAVE);
        }
        for (int fit : outside(0, 9)) {
            refused(11, "best(0, " + fit + ", 0)", OUTSIDE, x -> x.best(0, fit, 0), WITH_CAVE);
            refused(11, "best(5, " + fit + ", 12)", OUTSIDE, x -> x.best(5, fit, 12), WITH_CAVE);
        }
        for (int what : outside(10, 12)) {
            refused(11, "best(0, 0, " + what + ")", OUTSIDE, x -> x.best(0, 0, what), WITH_CAVE);
        }
        for (int what : new int[] {-1, 1, 2, 3, 8, 9, 256, 65536}) {
            refused(11, "best(5, 9, " + what + ")", OUTSIDE, x -> x.best(5, 9, what), WITH_CAVE);
        }
    }

    /** "STATE: best() was done 30 times ever (also such as told NONE; it counts on, whatever is read or restored)". */
    private static void bestTooOften() {
        Past[] pasts = {RefusalTests::allBestsDone, () -> noneFoundBest(true), () -> noneFoundBest(false),
            () -> readWhileBestsDone(), () -> restoredWhileBestsDone()};
        for (int what : new int[] {0, 10, 11, 12}) {
            refused(11, "best(0, 0, " + what + "), the 31st", STATE, x -> x.best(0, 0, what), pasts);
            refused(11, "best(5, 9, " + what + "), the 31st", STATE, x -> x.best(5, 9, what), pasts);
        }
        refused(11, "best(6, 0, 0), the 31st", UNKNOWN, x -> x.best(6, 0, 0), pasts);
        refused(11, "best(0, 10, 0), the 31st", OUTSIDE, x -> x.best(0, 10, 0), pasts);
        refused(11, "best(0, 0, 1), the 31st", OUTSIDE, x -> x.best(0, 0, 1), pasts);
        for (Past past : pasts) {
            due(11, "count(9)", past.make().count(9), 30);
        }
        refusedBestsAreNotDone();
    }

    private static RotaFathers noneFoundBest(boolean first) {
        RotaFathers x = caveWith("f09,f19;0", "01010101");
        for (int i = 0; i < 30; i++) {
            boolean none = first == i < 15;
            due(11, "best, the " + (i + 1), x.best(0, none ? 9 : 0, 0) == NONE ? 1 : 0, none ? 1 : 0);
        }
        return x;
    }

    private static RotaFathers readWhileBestsDone() {
        RotaFathers x = caveOf("f09,f19;0");
        for (int i = 0; i < 29; i++) {
            x.best(0, 0, 0);
        }
        write(x, "c09,f19,s11;0").cave();
        due(11, "best, the 30th", x.best(0, 0, 0) >= 0 ? 1 : 0, 1);
        return x;
    }

    private static RotaFathers restoredWhileBestsDone() {
        RotaFathers x = caveOf("f09,f19;0");
        x.image();
        for (int i = 0; i < 29; i++) {
            x.best(0, 0, 0);
        }
        x.restore();
        due(11, "best, the 30th", x.best(0, 0, 0) >= 0 ? 1 : 0, 1);
        x.restore();
        return x;
    }

    private static void refusedBestsAreNotDone() {
        RotaFathers x = new RotaFathers();
        x.best(0, 0, 0);
        write(x, "f09,f19;0").cave();
        for (int i = 0; i < 40; i++) {
            x.best(6, 0, 0);
            x.best(0, 10, 0);
            x.best(0, 0, 1);
        }
        due(11, "count(9), all were refused", x.count(9), 0);
        due(11, "best(0, 0, 0)", x.best(0, 0, 0) >= 0 ? 1 : 0, 1);
        due(11, "count(9)", x.count(9), 1);
    }

    private static void swaps() {
        refused(12, "swaps()", STATE, RotaFathers::swaps, WITHOUT_CAVE);
    }

    private static void found() {
        refused(13, "found(0, 0)", UNKNOWN, x -> x.found(0, 0), WITHOUT_CAVE);
        refused(13, "found(8, 9)", UNKNOWN, x -> x.found(8, 9), WITHOUT_CAVE);
        refused(13, "found(0, 10)", UNKNOWN, x -> x.found(0, 10), WITHOUT_CAVE);
        for (int shift : outside(0, 8)) {
            refused(13, "found(" + shift + ", 0)", UNKNOWN, x -> x.found(shift, 0), WITH_CAVE);
            refused(13, "found(" + shift + ", 10)", UNKNOWN, x -> x.found(shift, 10), WITH_CAVE);
        }
        for (int fit : outside(0, 9)) {
            refused(13, "found(0, " + fit + ")", OUTSIDE, x -> x.found(0, fit), WITH_CAVE);
            refused(13, "found(8, " + fit + ")", OUTSIDE, x -> x.found(8, fit), WITH_CAVE);
        }
        for (int shift = 0; shift <= 8; shift++) {
            int ahead = shift;
            refused(13, "found(" + shift + ", 0)", FULL, x -> x.found(ahead, 0), RefusalTests::allFound);
            refused(13, "found(" + shift + ", 9)", FULL, x -> x.found(ahead, 9), RefusalTests::allFound);
        }
    }

    private static void months() {
        for (int days : outside(1, 30)) {
            refused(15, "months(" + days + ", 0, 0)", OUTSIDE, x -> x.months(days, 0, 0), ALL);
        }
        for (int seed : new int[] {-1, -256, -65536, MIN + 1, MIN}) {
            refused(15, "months(1, " + seed + ", 0)", OUTSIDE, x -> x.months(1, seed, 0), ALL);
            refused(15, "months(30, " + seed + ", 2)", OUTSIDE, x -> x.months(30, seed, 2), ALL);
        }
        for (int what : outside(0, 2)) {
            refused(15, "months(1, 0, " + what + ")", OUTSIDE, x -> x.months(1, 0, what), ALL);
        }
        for (int what = 0; what <= 2; what++) {
            int asked = what;
            refused(15, "months(1, 0, " + what + ")", STATE, x -> x.months(1, 0, asked), WITHOUT_CAVE);
            refused(15, "months(30, MAX, " + what + ")", STATE, x -> x.months(30, MAX, asked), WITHOUT_CAVE);
        }
    }

    private static void imageAndRestore() {
        refused(16, "image()", STATE, RotaFathers::image, WITHOUT_CAVE);
        refused(17, "restore(), none was kept", STATE, RotaFathers::restore, WITHOUT_CAVE);
        refused(17, "restore(), none was kept", STATE, RotaFathers::restore, () -> caveOf("f01,c11;5"),
            RefusalTests::allBestsDone);
        refused(17, "restore(), a cave of the same text was read", STATE, RotaFathers::restore, RefusalTests::readAgain);
        refused(17, "restore(), another cave was read", STATE, RotaFathers::restore, () -> {
            RotaFathers x = muchDone();
            x.blank();
            write(x, "p11,a22;9").cave();
            return x;
        });
        refused(17, "restore(), the refused image() kept none", STATE, RotaFathers::restore, () -> {
            RotaFathers x = new RotaFathers();
            x.image();
            write(x, "p11,a22;9").cave();
            return x;
        });
    }

    private static void count() {
        for (int what : outside(0, 10)) {
            refused(18, "count(" + what + ")", OUTSIDE, x -> x.count(what), ALL);
        }
    }
}
