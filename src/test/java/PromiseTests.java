/** Each promise by hand-made calls: ordinary inputs, the edges that the document names, wrong inputs. */
public final class PromiseTests extends Calls {
    public static void main(String[] args) {
        constants();
        promise1();
        promise2();
        promise3();
        promise4();
        promise5();
        promise6();
        promise7();
        promise8();
        promise9Day();
        promise9Who();
        promise9Look();
        promise10();
        promise11();
        promise11Limit();
        promise12();
        promise13();
        promise14();
        promise15();
        promise16And17();
        promise18();
        promise19();
        end();
    }

    private static void constants() {
        due(0, "NONE", RotaFathers.NONE, NONE);
        due(0, "UNKNOWN", RotaFathers.UNKNOWN, UNKNOWN);
        due(0, "OUTSIDE", RotaFathers.OUTSIDE, OUTSIDE);
        due(0, "STATE", RotaFathers.STATE, STATE);
        due(0, "FULL", RotaFathers.FULL, FULL);
    }

    private static void promise1() {
        RotaFathers x = new RotaFathers();
        for (int what = 0; what <= 10; what++) {
            due(1, "count(" + what + ")", x.count(what), 0);
        }
        due(1, "about(0, 0)", x.about(0, 0), UNKNOWN);
        due(1, "as(0, 0)", x.as(0, 0), UNKNOWN);
        due(1, "rota(0, -1)", x.rota(0, NONE), UNKNOWN);
        due(1, "shift(0, 0)", x.shift(0, 0), UNKNOWN);
        due(1, "shift(0, 9)", x.shift(0, 9), UNKNOWN);
        due(1, "day()", x.day(), STATE);
        due(1, "best(0, 0, 0)", x.best(0, 0, 0), UNKNOWN);
        due(1, "best(0, 10, 0)", x.best(0, 10, 0), UNKNOWN);
        due(1, "swaps()", x.swaps(), STATE);
        due(1, "found(0, 0)", x.found(0, 0), UNKNOWN);
        due(1, "found(0, 10)", x.found(0, 10), UNKNOWN);
        due(1, "forget()", x.forget(), 0);
        due(1, "months(1, 0, 0)", x.months(1, 0, 0), STATE);
        due(1, "months(0, 0, 0)", x.months(0, 0, 0), OUTSIDE);
        due(1, "image()", x.image(), STATE);
        due(1, "restore()", x.restore(), STATE);
        due(1, "cave()", x.cave(), STATE);
        due(1, "fault()", x.fault(), 0);
        due(1, "count(9)", x.count(9), 0);
    }

    private static void promise2() {
        RotaFathers x = new RotaFathers();
        due(2, "letter(31)", x.letter(31), OUTSIDE);
        due(2, "letter(127)", x.letter(127), OUTSIDE);
        due(2, "letter(MIN)", x.letter(MIN), OUTSIDE);
        due(2, "letter(MAX)", x.letter(MAX), OUTSIDE);
        due(2, "letter(-1)", x.letter(-1), OUTSIDE);
        due(2, "letter(32)", x.letter(32), 1);
        due(2, "letter(126)", x.letter(126), 2);
        for (int i = 3; i <= 18; i++) {
            due(2, "letter(102)", x.letter(102), i);
        }
        due(2, "letter(102)", x.letter(102), FULL);
        due(2, "letter(31) on a full page", x.letter(31), OUTSIDE);
        due(2, "count(7)", x.count(7), 18);
        due(2, "blank()", x.blank(), 18);
        due(2, "letter(102)", x.letter(102), 1);
    }

    private static void promise3() {
        RotaFathers x = new RotaFathers();
        due(3, "blank()", x.blank(), 0);
        write(x, "f01");
        due(3, "blank()", x.blank(), 3);
        due(3, "blank()", x.blank(), 0);
        due(3, "count(7)", x.count(7), 0);
        write(x, "f01,f01;3");
        x.cave();
        write(x, "xy");
        due(3, "blank()", x.blank(), 2);
        due(3, "count(0)", x.count(0), 2);
        due(3, "count(1)", x.count(1), 3);
    }

    private static void fault(String text, int place) {
        RotaFathers x = new RotaFathers();
        write(x, text);
        due(4, "fault() of " + text, x.fault(), place);
        due(4, "count(7) then", x.count(7), text.length());
    }

    private static void promise4() {
        fault("", 0);
        fault("f", 1);
        fault("F", 0);
        fault(",", 0);
        fault(";", 0);
        fault("x", 0);
        fault("f5", 2);
        fault("f6", 1);
        fault("f/", 1);
        fault("f01", 3);
        fault("f00", 2);
        fault("f09", 3);
        fault("f0:", 2);
        fault("f0;", 2);
        fault("f;", 1);
        fault("f01;", 3);
        fault("f01;5", 3);
        fault("f01 ", 3);
        fault("f01,", 4);
        fault("f01,;", 4);
        fault("f01,c11", 7);
        fault("f01,c11;", 8);
        fault("f01,c11;9", 9);
        fault("f01,c11;0", 9);
        fault("f01,c11;:", 8);
        fault("f01,c11;;", 8);
        fault("f01,c11;99", 9);
        fault("f01,c11;9,", 9);
        fault("f01,c11,s21;9", 13);
        fault("f01,c11,s21,p31;9", 17);
        fault("f01,c11,s21,p31;99", 17);
        fault("f01,c11,s21,p31,", 15);
        fault("f01,c11,s21,p31,a", 15);
        fault("a59,a59,a59,a59;9", 17);
        RotaFathers x = new RotaFathers();
        write(x, "f01,c11;9");
        x.blank();
        write(x, "f01,c11");
        due(4, "fault(), the page was longer once", x.fault(), 7);
        due(5, "cave(), the page was longer once", x.cave(), STATE);
    }

    private static void noCave(String text) {
        RotaFathers x = new RotaFathers();
        write(x, text);
        due(5, "cave() of " + text, x.cave(), STATE);
        due(5, "count(7) then", x.count(7), text.length());
        due(5, "count(0) then", x.count(0), 0);
        due(5, "count(8) then", x.count(8), 0);
    }

    private static void promise5() {
        noCave("");
        noCave("f01");
        noCave("f01;5");
        noCave("f01,c11");
        noCave("f01,c11;");
        noCave("f01,c11;99");
        noCave("f01,c11;9 ");
        noCave("f01,c60;9");
        noCave("f01,c11,s21,p31,a4");
        RotaFathers x = caveWith("f05,c15;3", "01------");
        due(5, "count(7)", x.count(7), 0);
        x.image();
        due(5, "day()", x.day(), 3 + 2);
        x.found(0, 9);
        x.best(0, 0, 0);
        write(x, "s33,p44,a55;7");
        due(5, "cave()", x.cave(), 3);
        int[] counts = {3, 7, 0, 0, 0, 0, 0, 0, 2, 1, 9};
        for (int what = 0; what <= 10; what++) {
            due(5, "count(" + what + ")", x.count(what), counts[what]);
        }
        row(5, x, 0, NONE, NONE, NONE, NONE, NONE, NONE, NONE, NONE);
        due(5, "restore()", x.restore(), STATE);
        due(5, "about(0, 0)", x.about(0, 0), 2);
        write(x, "f01,c11;");
        due(5, "cave() of no cave", x.cave(), STATE);
        due(5, "count(0) as ahead of it", x.count(0), 3);
        x.blank();
        write(x, "f01,c11;2");
        due(5, "cave()", x.cave(), 2);
        due(5, "about(2, 0), gone", x.about(2, 0), UNKNOWN);
        due(5, "as(2, 0), gone", x.as(2, 0), UNKNOWN);
        due(5, "rota(0, 2), gone", x.rota(0, 2), UNKNOWN);
    }

    private static void promise6() {
        String kinds = "fcspa";
        for (int k = 0; k < 5; k++) {
            RotaFathers x = caveOf("f01," + kinds.charAt(k) + "57;0");
            due(6, "about(1, 0) of " + kinds.charAt(k), x.about(1, 0), k);
            due(6, "about(1, 1)", x.about(1, 1), 5);
            due(6, "about(1, 2), as told", x.about(1, 2), 7);
        }
        RotaFathers x = caveWith("f03,f03,s29;3", "010--2--");
        due(6, "about(0, 7): 3 in shift 0, a fall in shift 2", x.about(0, 7), 3);
        due(6, "about(0, 5)", x.about(0, 5), 5);
        due(6, "about(1, 5)", x.about(1, 5), 2);
        due(6, "about(2, 5)", x.about(2, 5), 32);
        due(6, "about(0, 6)", x.about(0, 6), 0);
        due(6, "about(1, 7)", x.about(1, 7), 0);
        due(6, "about(2, 7)", x.about(2, 7), 0);
        due(6, "day()", x.day(), 3);
        due(6, "about(0, 3)", x.about(0, 3), 3);
        due(6, "about(0, 4)", x.about(0, 4), 1);
        due(6, "about(1, 3)", x.about(1, 3), 0);
        due(6, "about(1, 4)", x.about(1, 4), 1);
        due(6, "about(2, 4)", x.about(2, 4), 0);
        due(6, "about(0, 6)", x.about(0, 6), 1);
        due(6, "about(1, 6)", x.about(1, 6), 1);
        due(6, "about(2, 6), a Syrian's too", x.about(2, 6), 1);
        RotaFathers last = caveWith("f01,f01,f01,f19;9", "-------3");
        due(6, "about(3, 5)", last.about(3, 5), 128);
        due(6, "about(3, 7)", last.about(3, 7), 9);
        last.day();
        due(6, "about(3, 3)", last.about(3, 3), 9);
        last.rota(0, 3);
        last.day();
        due(6, "about(3, 4)", last.about(3, 4), 2);
        write(last, "f01,f01,f01,f19;9");
        last.cave();
        due(6, "about(3, 3), gone", last.about(3, 3), 0);
        due(6, "about(3, 4), gone", last.about(3, 4), 0);
        due(6, "about(3, 0)", x.about(3, 0), UNKNOWN);
        due(6, "about(-1, 0)", x.about(-1, 0), UNKNOWN);
        due(6, "about(MAX, 0)", x.about(MAX, 0), UNKNOWN);
        due(6, "about(MIN, 9)", x.about(MIN, 9), UNKNOWN);
        due(6, "about(0, 8)", x.about(0, 8), OUTSIDE);
        due(6, "about(0, -1)", x.about(0, -1), OUTSIDE);
        due(6, "about(0, MIN)", x.about(0, MIN), OUTSIDE);
        knowsBySharedFlaw();
    }

    private static void knowsBySharedFlaw() {
        RotaFathers x = caveWith("f29,c29,f39;4", "0-------");
        x.day();
        due(6, "about(1, 6), of the same flaw", x.about(1, 6), 1);
        due(6, "about(2, 6), of another flaw", x.about(2, 6), 0);
        setRota(x, "1-2-----");
        due(6, "about(1, 7)", x.about(1, 7), 11);
        due(6, "about(2, 7)", x.about(2, 7), 9);
    }

    private static void promise7() {
        RotaFathers x = caveOf("f01,c01,s01,p01;0");
        for (int f = 0; f < 4; f++) {
            for (int kind = 0; kind < 5; kind++) {
                boolean is = kind == 0 || kind == f;
                due(7, "as(" + f + ", " + kind + ")", x.as(f, kind), is ? f : NONE);
            }
        }
        RotaFathers y = caveOf("f01,f01,f01,a01;0");
        int[] abbot = {3, 3, NONE, NONE, 3};
        for (int kind = 0; kind < 5; kind++) {
            due(7, "as(3, " + kind + ") of an abbot", y.as(3, kind), abbot[kind]);
        }
        due(7, "as(4, 0)", y.as(4, 0), UNKNOWN);
        due(7, "as(-1, 0)", y.as(-1, 0), UNKNOWN);
        due(7, "as(4, 5)", y.as(4, 5), UNKNOWN);
        due(7, "as(0, 5)", y.as(0, 5), OUTSIDE);
        due(7, "as(0, -1)", y.as(0, -1), OUTSIDE);
        due(7, "as(0, MIN)", y.as(0, MIN), OUTSIDE);
        due(7, "as(MAX, MAX)", y.as(MAX, MAX), UNKNOWN);
    }

    private static void promise8() {
        RotaFathers x = caveOf("f01,c01;0");
        due(8, "rota(0, 1)", x.rota(0, 1), NONE);
        due(8, "rota(0, 0)", x.rota(0, 0), 1);
        due(8, "rota(0, 0)", x.rota(0, 0), 0);
        due(8, "rota(0, -1)", x.rota(0, NONE), 0);
        due(8, "rota(0, -1)", x.rota(0, NONE), NONE);
        due(8, "rota(7, 1)", x.rota(7, 1), NONE);
        due(8, "rota(8, 1)", x.rota(8, 1), UNKNOWN);
        due(8, "rota(-1, 1)", x.rota(-1, 1), UNKNOWN);
        due(8, "rota(7, 2)", x.rota(7, 2), UNKNOWN);
        due(8, "rota(7, -2)", x.rota(7, -2), UNKNOWN);
        due(8, "rota(7, MIN)", x.rota(7, MIN), UNKNOWN);
        due(8, "rota(MAX, MAX)", x.rota(MAX, MAX), UNKNOWN);
        row(8, x, 0, NONE, NONE, NONE, NONE, NONE, NONE, NONE, 1);
    }

    private static void promise9Day() {
        RotaFathers x = caveWith("c05,f15;9", "0--0----");
        row(9, x, 0, 0, NONE, NONE, 0, NONE, NONE, NONE, NONE);
        row(9, x, 1, 9, 9, 9, 9, 9, 9, 9, 9);
        row(9, x, 2, 9, 0, 0, 11, 0, 0, 0, 0);
        row(9, x, 3, 1, 0, 0, 1, 0, 0, 0, 0);
        RotaFathers copt = caveWith("c06,c16;8", "010101--");
        row(9, copt, 1, 8, 7, 6, 5, 4, 3, 2, 4);
        row(9, copt, 2, 8, 7, 8, 7, 6, 5, 0, 0);
        row(9, copt, 3, 0, 0, 0, 0, 0, 0, 0, 0);
        RotaFathers late = caveWith("c05,c15;3", "---00---");
        row(9, late, 1, 3, 5, 7, 9, 9, 9, 9, 9);
        row(9, late, 3, 0, 0, 0, 1, 1, 0, 0, 0);
        coptsShiftsThreeAndFour();
        RotaFathers abbot = caveWith("a05,a15;7", "0-------");
        row(9, abbot, 3, 0, 0);
        setRota(abbot, "1------0");
        row(9, abbot, 1, 7, 6, 8, 9, 9, 9, 9, 9);
        row(9, abbot, 3, 0, 0, 0, 0, 0, 0, 0, 1);
        RotaFathers spoiler = caveWith("p05,f01;5", "00000000");
        row(9, spoiler, 1, 5, 6, 7, 8, 9, 9, 9, 9);
        row(9, spoiler, 2, 5, 8, 9, 10, 11, 11, 11, 11);
        row(9, spoiler, 3, 0, 1, 1, 1, 1, 1, 1, 1);
        RotaFathers syrian = caveWith("s01,f19;4", "0011----");
        row(9, syrian, 1, 4, 6, 8, 7, 6, 8, 9, 9);
        row(9, syrian, 2, 4, 8, 8, 9, 0, 0, 0, 0);
        row(9, syrian, 3, 0, 0, 0, 0, 0, 0, 0, 0);
        RotaFathers least = caveWith("f01,f12;0", "0101----");
        row(9, least, 1, 0, 0, 0, 1, 2, 4, 6, 8);
        row(9, least, 2, 0, 0, 2, 3, 0, 0, 0, 0);
        row(9, least, 3, 0, 0, 1, 1, 0, 0, 0, 0);
        due(9, "shift(8, 0)", x.shift(8, 0), UNKNOWN);
        due(9, "shift(-1, 0)", x.shift(-1, 0), UNKNOWN);
        due(9, "shift(8, 6)", x.shift(8, 6), UNKNOWN);
        due(9, "shift(0, 6)", x.shift(0, 6), OUTSIDE);
        due(9, "shift(0, -1)", x.shift(0, -1), OUTSIDE);
        due(9, "shift(MAX, 0)", x.shift(MAX, 0), UNKNOWN);
        due(9, "shift(MIN, 0)", x.shift(MIN, 0), UNKNOWN);
        due(9, "shift(7, MIN)", x.shift(7, MIN), OUTSIDE);
    }

    /** At shift 3 a COPT still bears 2 more, at shift 4 no longer; an ABBOT does in both. */
    private static void coptsShiftsThreeAndFour() {
        RotaFathers x = caveWith("f09,c17;9", "0--1----");
        row(9, x, 2, 9, 0, 0, 9, 0);
        row(9, x, 3, 0, 0, 0, 0, 0);
        RotaFathers y = caveWith("f09,c17;9", "0---1---");
        row(9, y, 2, 9, 0, 0, 0, 9);
        row(9, y, 3, 0, 0, 0, 0, 1);
        RotaFathers z = caveWith("f09,a17;9", "0------1");
        row(9, z, 3, 0, 0, 0, 0, 0, 0, 0, 0);
        RotaFathers tooHeavy = caveWith("c06,a16;9", "01-----1");
        row(9, tooHeavy, 2, 9, 9, 0, 0, 0, 0, 0, 11);
        row(9, tooHeavy, 3, 1, 1, 0, 0, 0, 0, 0, 1);
    }

    private static void promise9Who() {
        RotaFathers x = caveOf("f05,s19,p25;5");
        due(9, "shift(0, 4), nothing found", x.shift(0, 4), 1 + 2 + 4 + 16);
        x.found(1, 4);
        due(9, "shift(0, 4)", x.shift(0, 4), 1);
        due(9, "shift(1, 4)", x.shift(1, 4), 0);
        due(9, "shift(0, 5)", x.shift(0, 5), 0);
        x.forget();
        x.found(1, 6);
        due(9, "shift(0, 4)", x.shift(0, 4), 4);
        x.forget();
        x.found(1, 7);
        due(9, "shift(0, 4)", x.shift(0, 4), 2 + 16);
        x.found(2, 9);
        due(9, "shift(0, 4)", x.shift(0, 4), 2 + 16);
        due(9, "shift(1, 4)", x.shift(1, 4), 2 + 16);
        due(9, "shift(2, 4)", x.shift(2, 4), 1 + 2 + 4 + 16);
        x.found(0, 4);
        due(9, "shift(2, 4)", x.shift(2, 4), 0);
        RotaFathers end = caveOf("f09,s19;9");
        end.found(8, 8);
        due(9, "shift(7, 4)", end.shift(7, 4), 1);
        due(9, "shift(6, 4)", end.shift(6, 4), 0);
        due(9, "rota(0, 0) is as it was", end.shift(6, 0), NONE);
    }

    private static void promise9Look() {
        RotaFathers x = caveOf("f05,s19;5");
        due(9, "shift(0, 5)", x.shift(0, 5), 1);
        due(9, "shift(1, 5): 9 whoever it is, 8 would be by a fall", x.shift(1, 5), 2);
        due(9, "shift(7, 5): none differs", x.shift(7, 5), 0);
        x.found(1, 7);
        due(9, "shift(0, 5): two alike", x.shift(0, 5), 0);
        x.found(8, 0);
        due(9, "shift(0, 5)", x.shift(0, 5), NONE);
        due(9, "shift(0, 4)", x.shift(0, 4), 0);
        RotaFathers end = caveOf("f09,p19;9");
        due(9, "shift(7, 5)", end.shift(7, 5), 8);
        RotaFathers far = caveWith("f39,f49,f54;8", "-02-----");
        due(9, "shift(0, 5): ahead of 1 are 7, 7, 9, 9", far.shift(0, 5), 1);
    }

    private static void promise10() {
        RotaFathers x = caveWith("f09,c19;2", "01------");
        due(10, "day()", x.day(), 2 + 1);
        due(10, "count(1)", x.count(1), 9);
        due(10, "count(5)", x.count(5), 1);
        due(10, "day(): 9 and 2 are too heavy for 9, not for a copt's 11", x.day(), 0 + 11);
        due(10, "about(0, 3)", x.about(0, 3), 2);
        due(10, "about(0, 4)", x.about(0, 4), 1);
        due(10, "about(1, 3)", x.about(1, 3), 12);
        due(10, "count(3)", x.count(3), 14);
        due(10, "count(4)", x.count(4), 1);
        due(10, "count(5)", x.count(5), 2);
        due(10, "shift(0, 0), the rota stays", x.shift(0, 0), 0);
        x.found(0, 9);
        x.day();
        due(10, "count(6), what is found stays", x.count(6), 1);
        RotaFathers idle = caveOf("f09,c19;0");
        due(10, "day() of nobody", idle.day(), 0);
        due(10, "count(2)", idle.count(2), 0);
        due(10, "count(1)", idle.count(1), 9);
    }

    private static void promise11() {
        RotaFathers x = caveOf("f09,s19;0");
        // by hand: of shifts 5 to 7 the demon is 9 fit; FATHER 0 stands 9 once; then 8 and 2 are too heavy
        bests(x, 5, 0, 9, NONE, NONE, 0);
        bests(x, 5, 9, 9, NONE, 0, NONE);
        RotaFathers y = caveOf("s05,s19;3");
        bests(y, 0, 9, 0, NONE, NONE, NONE);
        RotaFathers none = caveWith("f09,f19;0", "01010101");
        bests(none, 0, 9, NONE, NONE, NONE, NONE);
        due(11, "count(9)", none.count(9), 4);
        due(11, "best(6, 0, 0)", none.best(6, 0, 0), UNKNOWN);
        due(11, "best(-1, 0, 0)", none.best(-1, 0, 0), UNKNOWN);
        due(11, "best(MAX, MAX, MAX)", none.best(MAX, MAX, MAX), UNKNOWN);
        due(11, "best(0, -1, 0)", none.best(0, -1, 0), OUTSIDE);
        due(11, "best(0, 10, 0)", none.best(0, 10, 0), OUTSIDE);
        for (int what : new int[] {-1, 1, 9, 13, MIN, MAX}) {
            due(11, "best(0, 0, " + what + ")", none.best(0, 0, what), OUTSIDE);
        }
        due(11, "count(9), refusals count not", none.count(9), 4);
        row(11, none, 0, 0, 1, 0, 1, 0, 1, 0, 1);
        twoAlikeAreTakenByNumbers();
    }

    /** 9, 8 and 7 with 2 more: so do 0 1 1, 1 0 0 and 1 0 1, the first by numbers is told. */
    private static void twoAlikeAreTakenByNumbers() {
        RotaFathers x = caveOf("f09,f19;9");
        bests(x, 0, 0, 26, 0, 1, 0);
    }

    private static void promise11Limit() {
        RotaFathers x = caveWith("f09,f19;0", "01010101");
        x.image();
        for (int i = 0; i < 15; i++) {
            x.best(0, 9, 0);
            x.best(0, 0, 0);
        }
        due(11, "count(9)", x.count(9), 30);
        due(11, "best, the 31st", x.best(0, 0, 0), STATE);
        due(11, "best(0, 10, 0), the 31st", x.best(0, 10, 0), OUTSIDE);
        due(11, "best(6, 0, 0), the 31st", x.best(6, 0, 0), UNKNOWN);
        x.restore();
        due(11, "best, restored", x.best(0, 0, 0), STATE);
        write(x, "f01,f01;1");
        x.cave();
        due(11, "best, another cave", x.best(0, 0, 0), STATE);
        due(11, "count(9)", x.count(9), 30);
    }

    private static void promise12() {
        // FATHER 0 gains 5 in shift 0; later the demon is fatter, and he gains as much as it is heavy up to 9
        RotaFathers x = caveWith("f09,s19;5", "0-------");
        due(12, "swaps()", x.swaps(), 7);
        RotaFathers y = caveWith("f05,s19;5", "0-------");
        due(12, "swaps(), he falls later", y.swaps(), 0);
        RotaFathers z = caveOf("f09,s19;5");
        due(12, "swaps() of like ones", z.swaps(), 0);
        // a Syrian and nobody are unlike, but no merit is more
        RotaFathers s = caveWith("f09,s19;5", "1-------");
        due(12, "swaps() of a Syrian", s.swaps(), 0);
        RotaFathers t = caveWith("f09,s19;5", "-------0");
        due(12, "swaps(): 9 is most already", t.swaps(), 0);
        row(12, t, 0, NONE, NONE, NONE, NONE, NONE, NONE, NONE, 0);
        RotaFathers u = caveWith("f09,s19;5", "-0------");
        due(12, "swaps(): 7 by now, 9 from shift 2 on", u.swaps(), 6);
    }

    private static void promise13() {
        RotaFathers x = caveOf("f01,f01;0");
        due(13, "found(-1, 0)", x.found(-1, 0), UNKNOWN);
        due(13, "found(9, 0)", x.found(9, 0), UNKNOWN);
        due(13, "found(9, 10)", x.found(9, 10), UNKNOWN);
        due(13, "found(MIN, 0)", x.found(MIN, 0), UNKNOWN);
        due(13, "found(0, -1)", x.found(0, -1), OUTSIDE);
        due(13, "found(0, 10)", x.found(0, 10), OUTSIDE);
        due(13, "found(0, MAX)", x.found(0, MAX), OUTSIDE);
        due(13, "count(6)", x.count(6), 0);
        due(13, "found(0, 0)", x.found(0, 0), 1);
        due(13, "found(8, 9)", x.found(8, 9), 2);
        due(13, "found(8, 9) again", x.found(8, 9), 3);
        due(13, "found(1, 2)", x.found(1, 2), 4);
        due(13, "found(2, 4)", x.found(2, 4), 5);
        due(13, "found(3, 6)", x.found(3, 6), 6);
        due(13, "shift(7, 4)", x.shift(7, 4), 1 + 2 + 16);
        due(13, "found(4, 0)", x.found(4, 0), FULL);
        due(13, "found(4, 10)", x.found(4, 10), OUTSIDE);
        due(13, "found(9, 0)", x.found(9, 0), UNKNOWN);
        due(13, "count(6)", x.count(6), 6);
        due(13, "shift(7, 4)", x.shift(7, 4), 1 + 2 + 16);
    }

    private static void promise14() {
        RotaFathers x = caveOf("f01,f01;0");
        due(14, "forget()", x.forget(), 0);
        x.found(0, 1);
        x.found(0, 2);
        due(14, "shift(0, 4)", x.shift(0, 4), 0);
        due(14, "forget()", x.forget(), 2);
        due(14, "forget()", x.forget(), 0);
        due(14, "count(6)", x.count(6), 0);
        due(14, "shift(0, 4)", x.shift(0, 4), 1 + 2 + 16);
        due(14, "found(0, 0)", x.found(0, 0), 1);
    }

    private static void promise15() {
        RotaFathers x = caveWith("f09,s19;5", "0-------");
        long before = x.digest();
        long seed = 7;
        for (int i = 0; i < 8; i++) {
            seed = (1103515245L * seed + 12345L) % (1L << 31);
        }
        due(15, "months(1, 7, 2)", x.months(1, 7, 2), seed);
        due(15, "digest(), they only would be", x.digest(), before);
        due(15, "months(0, 0, 0)", x.months(0, 0, 0), OUTSIDE);
        due(15, "months(31, 0, 0)", x.months(31, 0, 0), OUTSIDE);
        due(15, "months(1, -1, 0)", x.months(1, -1, 0), OUTSIDE);
        due(15, "months(1, MIN, 0)", x.months(1, MIN, 0), OUTSIDE);
        due(15, "months(1, 0, -1)", x.months(1, 0, -1), OUTSIDE);
        due(15, "months(1, 0, 3)", x.months(1, 0, 3), OUTSIDE);
        due(15, "months(MAX, MAX, MAX)", x.months(MAX, MAX, MAX), OUTSIDE);
    }

    private static void promise16And17() {
        RotaFathers x = caveWith("f09,p29,a19;5", "01-2---0");
        due(17, "restore(), none kept", x.restore(), STATE);
        x.day();
        x.found(0, 9);
        due(16, "image()", x.image(), 1);
        long kept = x.digest();
        x.day();
        x.day();
        setRota(x, "11111111");
        x.found(4, 4);
        x.forget();
        x.found(5, 5);
        x.found(6, 6);
        due(17, "about(2, 3), not as kept", x.about(2, 3), 7 + 11 + 11);
        due(17, "digest() is another", x.digest() == kept ? 1 : 0, 0);
        due(17, "restore()", x.restore(), 1);
        due(17, "digest() as kept", x.digest(), kept);
        due(17, "shift(0, 0)", x.shift(0, 0), 0);
        x.day();
        setRota(x, "--------");
        due(17, "restore() once more", x.restore(), 1);
        due(17, "digest() as kept", x.digest(), kept);
        x.day();
        due(16, "image(), the latest", x.image(), 2);
        x.day();
        due(17, "restore()", x.restore(), 2);
        due(17, "count(5)", x.count(5), 2);
        write(x, "f09,p29,a19;");
        due(17, "restore() leaves the page", x.restore(), 2);
        due(17, "count(7)", x.count(7), 12);
        x.letter('5');
        x.cave();
        due(17, "restore(), a cave of the same text was read", x.restore(), STATE);
        due(16, "image()", x.image(), 0);
        due(17, "restore()", x.restore(), 0);
    }

    private static void promise18() {
        RotaFathers x = caveWith("f09,p29,s29,c31;5", "012-3---");
        due(18, "count(10)", x.count(10), 9);
        x.day();
        x.found(1, 1);
        x.best(0, 0, 0);
        write(x, "f0");
        int[] want = {4, 9, 3, 5 + 4, 1, 1, 1, 2, 1, 1, 9};
        for (int what = 0; what <= 10; what++) {
            due(18, "count(" + what + ")", x.count(what), want[what]);
        }
        due(18, "count(11)", x.count(11), OUTSIDE);
        due(18, "count(-1)", x.count(-1), OUTSIDE);
        due(18, "count(MIN)", x.count(MIN), OUTSIDE);
        due(18, "count(MAX)", x.count(MAX), OUTSIDE);
        RotaFathers end = caveWith("f09,p29;9", "-------0");
        due(18, "count(10), in the end", end.count(10), 8);
        due(18, "count(1), as it is", end.count(1), 9);
    }

    private static long digestByCalls(RotaFathers x, String page) {
        long h = 1021;
        for (int f = 0; f < x.count(0); f++) {
            for (int what = 0; what <= 7; what++) {
                h = 31 * h + x.about(f, what);
            }
        }
        for (int s = 0; x.count(0) > 0 && s < 8; s++) {
            for (int what = 0; what <= 5; what++) {
                h = 31 * h + x.shift(s, what);
            }
        }
        if (x.count(0) > 0) {
            h = 31 * h + x.swaps();
        }
        for (char c : page.toCharArray()) {
            h = 31 * h + c;
        }
        for (int what = 0; what <= 10; what++) {
            h = 31 * h + x.count(what);
        }
        return h;
    }

    private static void promise19() {
        RotaFathers x = new RotaFathers();
        long h = 1021;
        for (int what = 0; what <= 10; what++) {
            h *= 31;
        }
        due(19, "digest() of a new object", x.digest(), h);
        write(x, "f0~ ");
        due(19, "digest() of a page alone", x.digest(), digestByCalls(x, "f0~ "));
        x.blank();
        write(x, "f09,p29,a41;5");
        x.cave();
        setRota(x, "0120-12-");
        write(x, "a4");
        due(19, "digest()", x.digest(), digestByCalls(x, "a4"));
        x.day();
        x.found(4, 4);
        x.best(0, 0, 0);
        due(19, "digest()", x.digest(), digestByCalls(x, "a4"));
        due(19, "digest() again", x.digest(), digestByCalls(x, "a4"));
    }
}
