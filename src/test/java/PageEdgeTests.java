import java.util.List;

/** The edges of section 1 and of promises 1 to 5: the page, and what is a cave. Each test bears its sentence. */
public final class PageEdgeTests extends Calls {
    private static final String KINDS = "fcspa";
    private static final String FOUR = "a59,s01,c21,p47;9";

    public static void main(String[] args) {
        atFirstThereIsNone();
        everyLetterComes();
        eighteenLettersAtMost();
        aPageIsEmptied();
        everyLetterAtEveryPlace();
        theFirstFaultIsTold();
        faultChangesNothing();
        everyFatherIsReadAsWritten();
        everyFitIsReadAsWritten();
        twoToFourFathers();
        thePageIsEmptyThen();
        anotherCaveIsGoneWithAllThatWas();
        aCaveOfTheSameTextIsAnother();
        theCaveStaysWhileAPageIsWritten();
        end();
    }

    /** "No CAVE"; "At first there is none". */
    private static void atFirstThereIsNone() {
        for (int what = 0; what <= 10; what++) {
            due(1, "count(" + what + ")", new RotaFathers().count(what), 0);
        }
        due(1, "fault()", new RotaFathers().fault(), 0);
        due(1, "blank()", new RotaFathers().blank(), 0);
        due(1, "forget()", new RotaFathers().forget(), 0);
        due(1, "day()", new RotaFathers().day(), STATE);
        List<Long> alone = toldToTheEnd(new RotaFathers());
        RotaFathers other = caveWith(FOUR, "01230123");
        other.image();
        other.day();
        write(other, "f0");
        boolean same = alone.equals(toldToTheEnd(new RotaFathers()));
        due(1, "a new object has nothing of another", same ? 1 : 0, 1);
    }

    /** "A letter comes behind THE PAGE, told by its code ... OUTSIDE: code (32 to 126)". */
    private static void everyLetterComes() {
        for (int code = -300; code <= 400; code++) {
            RotaFathers x = new RotaFathers();
            boolean comes = code >= 32 && code <= 126;
            due(2, "letter(" + code + ")", x.letter(code), comes ? 1 : OUTSIDE);
            due(2, "count(7) then", x.count(7), comes ? 1 : 0);
            if (comes) {
                due(19, "digest() of letter " + code, x.digest(), pageDigest(code));
            }
        }
    }

    private static long pageDigest(int code) {
        long h = 31L * 1021L + code;
        for (int what = 0; what <= 10; what++) {
            h = 31L * h + (what == 7 ? 1 : 0);
        }
        return h;
    }

    /** "how many THE PAGE has"; "FULL: above 18". */
    private static void eighteenLettersAtMost() {
        RotaFathers x = new RotaFathers();
        for (int i = 1; i <= 18; i++) {
            due(2, "letter(102)", x.letter('f'), i);
        }
        due(2, "the 19th letter", x.letter('f'), FULL);
        due(2, "the 19th letter, once more", x.letter(126), FULL);
        due(2, "the 19th letter, none at all", x.letter(127), OUTSIDE);
        due(2, "count(7)", x.count(7), 18);
        due(3, "blank()", x.blank(), 18);
        for (int i = 1; i <= 17; i++) {
            due(2, "letter, behind a blank()", x.letter(FOUR.charAt(i - 1)), i);
        }
        due(5, "cave()", x.cave(), 4);
        for (int i = 1; i <= 18; i++) {
            due(2, "letter, behind a cave()", x.letter(';'), i);
        }
        due(2, "the 19th letter, behind a cave()", x.letter(';'), FULL);
    }

    /** "THE PAGE is empty: how many letters it had": of an empty one, a full one, twice. */
    private static void aPageIsEmptied() {
        for (int letters = 0; letters <= 18; letters++) {
            RotaFathers x = new RotaFathers();
            for (int i = 0; i < letters; i++) {
                x.letter('a');
            }
            due(3, "blank() of " + letters, x.blank(), letters);
            due(3, "blank() again", x.blank(), 0);
            due(3, "count(7)", x.count(7), 0);
            due(4, "fault()", x.fault(), 0);
            due(2, "letter(99)", x.letter('c'), 1);
            due(4, "fault()", x.fault(), 1);
        }
    }

    private static String rightLetters(int place, int fathers) {
        if (place > 4 * fathers) {
            return "";
        }
        if (place == 4 * fathers) {
            return "0123456789";
        }
        switch (place % 4) {
            case 0: return KINDS;
            case 1: return "012345";
            case 2: return "123456789";
            default: return place == 3 ? "," : place == 15 ? ";" : ",;";
        }
    }

    /** "a letter, the KIND, and two digits, FLAW (0 to 5), STRENGTH (1 to 9); then ';' and a digit": at each place. */
    private static void everyLetterAtEveryPlace() {
        for (int fathers = 2; fathers <= 4; fathers++) {
            String whole = FOUR.substring(0, 4 * fathers - 1) + ";9";
            for (int place = 0; place <= whole.length(); place++) {
                for (int code = 32; code <= 126; code++) {
                    RotaFathers x = write(new RotaFathers(), whole.substring(0, place));
                    due(4, "fault() of what is ahead of " + place, x.fault(), place);
                    x.letter(code);
                    boolean right = rightLetters(place, fathers).indexOf(code) >= 0;
                    due(4, "fault() with " + code + " at " + place, x.fault(), right ? place + 1 : place);
                    boolean cave = right && place == 4 * fathers;
                    due(5, "cave() with " + code + " at " + place, x.cave(), cave ? fathers : STATE);
                }
            }
        }
    }

    private static void fault(String text, int place) {
        due(4, "fault() of " + text, write(new RotaFathers(), text).fault(), place);
    }

    /** "of the first letter ... that no CAVE has there, behind those ahead of it": whatever comes behind it. */
    private static void theFirstFaultIsTold() {
        fault("x01,c11;9", 0);
        fault("f61,c11;9", 1);
        fault("f00,c11;9", 2);
        fault("f01;c11;9", 3);
        fault("f01,x11;9", 4);
        fault("f01,c91;9", 5);
        fault("f01,c10;9", 6);
        fault("f01,c11:9", 7);
        fault("f01,c11;a", 8);
        fault("f01,c11;9;", 9);
        fault("f01,c11,s21,p31,a41;9", 15);
        fault("x61;x60;;", 0);
        fault("f01,c11,s21,p31;9;", 17);
        fault("f01,c11,s21,p31;99", 17);
        fault("aaaaaaaaaaaaaaaaaa", 1);
        fault("                  ", 0);
    }

    private static void faultChangesNothing() {
        for (String text : new String[] {"", "f", "x", "f01,c11;9", "f01,c11;9x"}) {
            RotaFathers x = write(new RotaFathers(), text);
            x.fault();
            x.fault();
            alike(4, "fault() of " + text + " changed nothing", x, write(new RotaFathers(), text));
        }
    }

    /** "FATHERS (numbered from 0)"; "FLAW (0 to 5), STRENGTH (1 to 9)". */
    private static void everyFatherIsReadAsWritten() {
        for (int kind = 0; kind < 5; kind++) {
            for (int flaw = 0; flaw <= 5; flaw++) {
                for (int strength = 1; strength <= 9; strength++) {
                    String one = "" + KINDS.charAt(kind) + flaw + strength;
                    father(one + ",f01;0", 0, kind, flaw, strength);
                    father("f01," + one + ";0", 1, kind, flaw, strength);
                    father("f01,f01," + one + ",f01;0", 2, kind, flaw, strength);
                    father("f01,f01,f01," + one + ";0", 3, kind, flaw, strength);
                }
            }
        }
    }

    private static void father(String text, int father, int kind, int flaw, int strength) {
        RotaFathers x = caveOf(text);
        due(6, "about(" + father + ", 0) of " + text, x.about(father, 0), kind);
        due(6, "about(" + father + ", 1) of " + text, x.about(father, 1), flaw);
        due(6, "about(" + father + ", 2) of " + text, x.about(father, 2), strength);
    }

    /** "a digit, how FIT the demon is (0 to 9)". */
    private static void everyFitIsReadAsWritten() {
        for (int fit = 0; fit <= 9; fit++) {
            due(5, "count(1)", caveOf("f01,c11;" + fit).count(1), fit);
            due(5, "count(1)", caveOf("f01,c11,s21,p31;" + fit).count(1), fit);
            due(5, "shift(0, 1)", caveOf("f01,c11,s21;" + fit).shift(0, 1), fit);
        }
    }

    /** "two to four FATHERS". */
    private static void twoToFourFathers() {
        due(5, "cave() of one", write(new RotaFathers(), "f01;5").cave(), STATE);
        due(5, "cave() of two", write(new RotaFathers(), "f01,f01;5").cave(), 2);
        due(5, "cave() of three", write(new RotaFathers(), "f01,f01,f01;5").cave(), 3);
        due(5, "cave() of four", write(new RotaFathers(), "f01,f01,f01,f01;5").cave(), 4);
        due(5, "cave() of more", write(new RotaFathers(), "f01,f01,f01,f01,f").cave(), STATE);
        for (int fathers = 2; fathers <= 4; fathers++) {
            RotaFathers x = caveOf(FOUR.substring(0, 4 * fathers - 1) + ";5");
            due(5, "count(0)", x.count(0), fathers);
            due(6, "about of the last", x.about(fathers - 1, 0), KINDS.indexOf(FOUR.charAt(4 * fathers - 4)));
            due(6, "about of one more", x.about(fathers, 0), UNKNOWN);
        }
    }

    /** "THE PAGE is empty then". */
    private static void thePageIsEmptyThen() {
        RotaFathers x = caveOf(FOUR);
        due(5, "count(7)", x.count(7), 0);
        due(5, "fault()", x.fault(), 0);
        due(5, "cave() of the empty page", x.cave(), STATE);
        due(5, "blank()", x.blank(), 0);
        due(5, "letter(102)", x.letter('f'), 1);
    }

    /** "another one is gone, with all that was"; "then nobody is in the ROTA, it KNOWS no FLAW". */
    private static void anotherCaveIsGoneWithAllThatWas() {
        for (String next : new String[] {"p31,a22;0", "f04,c16,s25;9", "f44,c36,s25,p17;5"}) {
            RotaFathers x = caveWith("f04,c16,s25,p37;5", "0123-103");
            x.day();
            x.day();
            x.found(0, 1);
            x.found(8, 3);
            x.image();
            write(x, next);
            due(5, "cave() of " + next, x.cave(), (next.length() - 1) / 4);
            RotaFathers y = caveOf("f11,f11;1");
            write(y, next).cave();
            row(5, x, 0, NONE, NONE, NONE, NONE, NONE, NONE, NONE, NONE);
            for (int what = 2; what <= 7; what++) {
                due(5, "count(" + what + ")", x.count(what), 0);
            }
            for (int father = 0; father < x.count(0); father++) {
                for (int what = 3; what <= 6; what++) {
                    due(5, "about(" + father + ", " + what + ")", x.about(father, what), 0);
                }
            }
            due(5, "restore()", x.restore(), STATE);
            alike(5, "nothing of the other cave is left", x, y);
        }
    }

    private static void aCaveOfTheSameTextIsAnother() {
        RotaFathers x = caveWith(FOUR, "01230123");
        x.day();
        x.found(3, 3);
        x.image();
        write(x, FOUR);
        due(5, "cave()", x.cave(), 4);
        due(5, "count(8)", x.count(8), 2);
        due(17, "restore()", x.restore(), STATE);
        RotaFathers y = caveOf("f01,f01;1");
        write(y, FOUR).cave();
        alike(5, "a cave of the same text begins anew", x, y);
    }

    /** A page that is written, blanked, or refused as a cave is no part of the cave. */
    private static void theCaveStaysWhileAPageIsWritten() {
        RotaFathers x = caveWith(FOUR, "01230123");
        RotaFathers y = caveWith(FOUR, "01230123");
        write(x, "f01,f01;1").blank();
        write(x, "f01,f01;").cave();
        due(3, "blank()", x.blank(), 8);
        alike(5, "the cave is as it was", x, y);
    }
}
