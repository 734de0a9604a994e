/** The edges of a day, section 1, and of promises 6 to 10. Each test bears its sentence. */
public final class DayEdgeTests extends Calls {
    private static final String KINDS = "fcspa";

    public static void main(String[] args) {
        oneMeetingOfEachKind();
        oneMeetingOfAKnownFlaw();
        twoMoreByShiftForCoptAndAbbot();
        zeroFitAtLeast();
        nineFitAtMost();
        aFallOfEachKind();
        aSyrianLetsItSleep();
        nobodyIsThere();
        itKnowsHisFlawThen();
        itKnowsOnTheSameDayOnlyBehindHim();
        aDayGoesOn();
        aboutShiftsAsBits();
        aboutMeritOfTheNextDay();
        asKinds();
        rotaTellsWhoWas();
        shiftTellsTheNextDay();
        dayLeavesRotaFoundAndPage();
        fiveHundredTwelveCalls();
        end();
    }

    private static int fitBehind(char kind, boolean stands, int fit) {
        int more = kind == 's' ? 2 : !stands || kind == 'p' ? 1 : -1;
        return Math.max(0, Math.min(9, fit + more));
    }

    private static void meeting(RotaFathers x, int shift, int father, String what, int heavy, boolean falls, int gain, int fit) {
        due(9, "shift(" + shift + ", 2), " + what, x.shift(shift, 2), heavy);
        due(9, "shift(" + shift + ", 3), " + what, x.shift(shift, 3), falls ? 1 : 0);
        due(6, "about(" + father + ", 7), " + what, x.about(father, 7), gain);
        due(9, "how fit behind shift " + shift + ", " + what, shift == 7 ? x.count(10) : x.shift(shift + 1, 1), fit);
    }

    /** "STANDS it, if it is no heavier than his STRENGTH": each kind, strength and fit, in SHIFT 0. */
    private static void oneMeetingOfEachKind() {
        for (char kind : KINDS.toCharArray()) {
            for (int strength = 1; strength <= 9; strength++) {
                for (int fit = 0; fit <= 9; fit++) {
                    String text = "f01," + kind + "5" + strength + ";" + fit;
                    int bears = kind == 'c' || kind == 'a' ? strength + 2 : strength;
                    boolean stands = kind != 's' && fit <= bears;
                    boolean falls = kind != 's' && fit > bears;
                    int behind = fitBehind(kind, stands, fit);
                    meeting(caveWith(text, "1"), 0, 1, text, fit, falls, stands ? fit : 0, behind);
                }
            }
        }
    }

    /** "2 more, if it KNOWS his FLAW": a Syrian of the same flaw is in SHIFT 0, so it is 2 more fit ahead of SHIFT 1. */
    private static void oneMeetingOfAKnownFlaw() {
        for (char kind : KINDS.toCharArray()) {
            for (int strength = 1; strength <= 9; strength++) {
                for (int start = 0; start <= 9; start++) {
                    for (int flaw = 4; flaw <= 5; flaw++) {
                        String text = "s49," + kind + flaw + strength + ";" + start;
                        int fit = Math.min(9, start + 2);
                        int heavy = flaw == 4 ? fit + 2 : fit;
                        int bears = kind == 'c' || kind == 'a' ? strength + 2 : strength;
                        boolean stands = kind != 's' && heavy <= bears;
                        boolean falls = kind != 's' && heavy > bears;
                        meeting(caveWith(text, "01"), 1, 1, text, heavy, falls, stands ? heavy : 0, fitBehind(kind, stands, fit));
                    }
                }
            }
        }
    }

    /** "(a COPT's 2 more in SHIFTS 0 to 3, an ABBOT's in all)": 9 FIT ahead of each SHIFT, he is there alone. */
    private static void twoMoreByShiftForCoptAndAbbot() {
        for (int shift = 0; shift < 8; shift++) {
            for (char kind : KINDS.toCharArray()) {
                for (int strength = 5; strength <= 9; strength++) {
                    int more = kind == 'a' || kind == 'c' && shift <= 3 ? 2 : 0;
                    boolean stands = kind != 's' && 9 <= strength + more;
                    boolean falls = kind != 's' && !stands;
                    String text = kind + "3" + strength + ",f11;9";
                    RotaFathers x = caveOf(text);
                    x.rota(shift, 0);
                    meeting(x, shift, 0, text, 9, falls, stands ? 9 : 0, fitBehind(kind, stands, 9));
                }
            }
        }
    }

    /** "it is by 1 less FIT then (0 at least)". */
    private static void zeroFitAtLeast() {
        RotaFathers x = caveWith("f09,c19,a29;2", "01201201");
        row(9, x, 1, 2, 1, 0, 0, 0, 0, 0, 0);
        row(9, x, 2, 2, 1, 0, 2, 2, 2, 2, 2);
        row(9, x, 3, 0, 0, 0, 0, 0, 0, 0, 0);
        due(18, "count(10)", x.count(10), 0);
        due(10, "day()", x.day(), 13);
        due(18, "count(1)", x.count(1), 0);
        RotaFathers y = caveWith("f01,c11;0", "0-------");
        row(9, y, 1, 0, 0, 2, 4, 6, 8, 9, 9);
        due(6, "about(0, 7), as heavy as 0", y.about(0, 7), 0);
        due(9, "shift(0, 3)", y.shift(0, 3), 0);
    }

    /** "It is 9 FIT at most": by a fall, a spoiler, a Syrian, nobody. */
    private static void nineFitAtMost() {
        for (int fit = 6; fit <= 9; fit++) {
            int oneMore = Math.min(9, fit + 1);
            int twoMore = Math.min(9, fit + 2);
            row(9, caveWith("f01,f11;" + fit, "0"), 1, fit, oneMore);
            row(9, caveWith("p01,f11;" + fit, "0"), 1, fit, oneMore);
            row(9, caveWith("p09,f11;" + fit, "0"), 1, fit, oneMore);
            row(9, caveWith("s01,f11;" + fit, "0"), 1, fit, twoMore);
            row(9, caveWith("f01,f11;" + fit, "-"), 1, fit, twoMore);
            due(18, "count(10) of nobody", caveOf("f01,f11;" + fit).count(10), 9);
        }
        RotaFathers x = caveWith("f01,p19,s21;9", "0-2-----");
        row(9, x, 1, 9, 9, 9, 9, 9, 9, 9, 9);
        due(10, "day()", x.day(), 0);
        due(18, "count(1)", x.count(1), 9);
        due(10, "day()", x.day(), 0);
        due(18, "count(1)", x.count(1), 9);
        row(9, x, 2, 11, 0, 11, 0, 0, 0, 0, 0);
    }

    /** "Else he FALLS: he gains nothing, it is by 1 more FIT": a spoiler's fall is no dates. */
    private static void aFallOfEachKind() {
        for (char kind : "fcpa".toCharArray()) {
            RotaFathers x = caveWith(kind + "01,f19;4", "0");
            row(9, x, 1, 4, 5, 7);
            due(9, "shift(0, 3) of " + kind, x.shift(0, 3), 1);
            due(6, "about(0, 7) of " + kind, x.about(0, 7), 0);
            due(10, "day() of " + kind, x.day(), 0);
            due(6, "about(0, 3) of " + kind, x.about(0, 3), 0);
            due(6, "about(0, 4) of " + kind, x.about(0, 4), 1);
            due(18, "count(4)", x.count(4), 1);
        }
        RotaFathers gives = caveWith("p05,f19;5", "0");
        row(9, gives, 1, 5, 6, 8);
        due(6, "about(0, 7) of a spoiler who stands", gives.about(0, 7), 5);
    }

    /** "By a SYRIAN, who lets it sleep, nothing is gained, nobody FALLS, it is by 2 more FIT": be he strong or weak. */
    private static void aSyrianLetsItSleep() {
        for (int strength = 1; strength <= 9; strength += 8) {
            RotaFathers x = caveWith("s2" + strength + ",f19;3", "00000000");
            row(9, x, 1, 3, 5, 7, 9, 9, 9, 9, 9);
            row(9, x, 2, 3, 7, 9, 11, 11, 11, 11, 11);
            row(9, x, 3, 0, 0, 0, 0, 0, 0, 0, 0);
            due(10, "day()", x.day(), 0);
            due(6, "about(0, 3)", x.about(0, 3), 0);
            due(6, "about(0, 4)", x.about(0, 4), 0);
            due(6, "about(0, 6)", x.about(0, 6), 1);
        }
    }

    /** "so it is, if nobody is there"; "(0: nobody is there)": no flaw is known by it. */
    private static void nobodyIsThere() {
        RotaFathers x = caveOf("f09,c19,s29,p39;0");
        row(9, x, 0, NONE, NONE, NONE, NONE, NONE, NONE, NONE, NONE);
        row(9, x, 1, 0, 2, 4, 6, 8, 9, 9, 9);
        row(9, x, 2, 0, 0, 0, 0, 0, 0, 0, 0);
        row(9, x, 3, 0, 0, 0, 0, 0, 0, 0, 0);
        due(10, "day()", x.day(), 0);
        due(18, "count(2)", x.count(2), 0);
        due(18, "count(4)", x.count(4), 0);
        due(18, "count(5)", x.count(5), 1);
    }

    /** "It KNOWS his FLAW then (a SYRIAN's, too)": each kind, each flaw, be it by standing or by a fall. */
    private static void itKnowsHisFlawThen() {
        for (char kind : KINDS.toCharArray()) {
            for (int flaw = 0; flaw <= 5; flaw++) {
                for (int strength = 1; strength <= 9; strength += 8) {
                    int other = (flaw + 1) % 6;
                    RotaFathers x = caveWith("" + kind + flaw + strength + ",f" + other + "1,p" + flaw + "1;5", "-------0");
                    due(6, "about(0, 6) ahead of the day", x.about(0, 6), 0);
                    due(18, "count(2) ahead of the day", x.count(2), 0);
                    x.day();
                    due(6, "about(0, 6)", x.about(0, 6), 1);
                    due(6, "about(1, 6), of another flaw", x.about(1, 6), 0);
                    due(6, "about(2, 6), of the same flaw", x.about(2, 6), 1);
                    due(18, "count(2)", x.count(2), 1);
                }
            }
        }
        RotaFathers all = caveWith("f09,c19,s49,p59;5", "0123");
        all.day();
        due(18, "count(2), all four", all.count(2), 4);
        all.day();
        due(18, "count(2), still four", all.count(2), 4);
    }

    /** "2 more, if it KNOWS his FLAW" and "KNOWS his FLAW then": not yet where he is there, but in the next SHIFT. */
    private static void itKnowsOnTheSameDayOnlyBehindHim() {
        RotaFathers x = caveWith("f09,f09,f19;5", "02010---");
        row(9, x, 1, 5, 4, 3, 2, 1, 0, 2, 4);
        row(9, x, 2, 5, 4, 5, 4, 3, 0, 0, 0);
        due(6, "about(0, 6): the next day is not lived", x.about(0, 6), 0);
        due(18, "count(2)", x.count(2), 0);
        due(10, "day()", x.day(), 21);
        row(9, x, 1, 6, 5, 4, 3, 2, 1, 3, 5);
        row(9, x, 2, 8, 7, 6, 5, 4, 0, 0, 0);
        RotaFathers exact = caveWith("f09,f09;8", "01");
        row(9, exact, 2, 8, 9);
        row(9, exact, 3, 0, 0);
        RotaFathers tooHeavy = caveWith("f09,f09;9", "01");
        row(9, tooHeavy, 2, 9, 10);
        row(9, tooHeavy, 3, 0, 1);
        row(9, tooHeavy, 1, 9, 8, 9);
    }

    /** "A DAY lived goes on from how FIT it is, what it KNOWS; MERIT, FALLS are added up." */
    private static void aDayGoesOn() {
        RotaFathers x = caveWith("a09,c18;0", "01------");
        int[] merits = {0, 21, 21, 21};
        int[] heavy = {0, 11, 11, 11};
        for (int d = 0; d < 4; d++) {
            due(9, "shift(0, 2) of day " + d, x.shift(0, 2), heavy[d]);
            due(10, "day() " + d, x.day(), merits[d]);
            due(18, "count(5)", x.count(5), d + 1);
            due(6, "about(0, 3)", x.about(0, 3), 11 * d);
            due(6, "about(1, 3)", x.about(1, 3), 10 * d);
            due(18, "count(3)", x.count(3), 21 * d);
            due(18, "count(1)", x.count(1), 9);
        }
        due(6, "about(0, 4)", x.about(0, 4), 0);
        RotaFathers y = caveWith("f01,p11;9", "0101----");
        for (int d = 1; d <= 4; d++) {
            y.day();
            due(6, "about(0, 4)", y.about(0, 4), 2 * d);
            due(6, "about(1, 4)", y.about(1, 4), 2 * d);
            due(18, "count(4)", y.count(4), 4 * d);
            due(18, "count(3)", y.count(3), 0);
        }
    }

    /** "5 in which SHIFTS he is by the ROTA, as bits": none, each, all. */
    private static void aboutShiftsAsBits() {
        for (int father = 0; father < 4; father++) {
            RotaFathers x = caveOf("f09,c19,s29,p39;5");
            due(6, "about(" + father + ", 5), none", x.about(father, 5), 0);
            int bits = 0;
            for (int shift = 0; shift < 8; shift++) {
                x.rota(shift, father);
                bits += 1 << shift;
                due(6, "about(" + father + ", 5)", x.about(father, 5), bits);
            }
            due(6, "about(" + father + ", 5), all", x.about(father, 5), 255);
            due(6, "about of another", x.about((father + 1) % 4, 5), 0);
            x.rota(0, NONE);
            x.rota(7, (father + 1) % 4);
            due(6, "about(" + father + ", 5)", x.about(father, 5), 126);
            due(6, "about of the other", x.about((father + 1) % 4, 5), 128);
        }
    }

    /** "7 how much MERIT he would gain on the next DAY": 0 if he is not there; of all his SHIFTS. */
    private static void aboutMeritOfTheNextDay() {
        RotaFathers x = caveWith("f09,a19;3", "0101010-");
        row(9, x, 2, 3, 2, 3, 2, 2, 2, 2, 0);
        due(6, "about(0, 7)", x.about(0, 7), 3 + 3 + 2 + 2);
        due(6, "about(1, 7)", x.about(1, 7), 2 + 2 + 2);
        due(6, "about(0, 3), not gained yet", x.about(0, 3), 0);
        due(10, "day()", x.day(), 16);
        due(6, "about(0, 3)", x.about(0, 3), 10);
        due(6, "about(1, 3)", x.about(1, 3), 6);
        setRota(x, "--------");
        due(6, "about(0, 7), he is not there", x.about(0, 7), 0);
        RotaFathers last = caveWith("f01,f01,f01,a19;9", "-------3");
        due(6, "about(3, 7), in the last SHIFT", last.about(3, 7), 9);
    }

    /** "his own number (not that of the KIND); NONE: he is none such": each place, each kind. */
    private static void asKinds() {
        String[] taken = {"fcspa", "ca", "s", "p", "a"};
        for (int father = 0; father < 4; father++) {
            for (char letter : KINDS.toCharArray()) {
                StringBuilder text = new StringBuilder("f01,f01,f01,f01;0");
                text.setCharAt(4 * father, letter);
                RotaFathers x = caveOf(text.toString());
                for (int kind = 0; kind <= 4; kind++) {
                    int want = taken[kind].indexOf(letter) >= 0 ? father : NONE;
                    due(7, "as(" + father + ", " + kind + ") of " + letter, x.as(father, kind), want);
                }
            }
        }
    }

    /** "In a SHIFT a FATHER is there, or nobody (NONE): who was (NONE)": each SHIFT by itself. */
    private static void rotaTellsWhoWas() {
        RotaFathers x = caveOf("f09,c19,s29,p39;5");
        for (int shift = 0; shift < 8; shift++) {
            int was = NONE;
            for (int father : new int[] {0, 3, 3, NONE, NONE, 2, 1}) {
                due(8, "rota(" + shift + ", " + father + ")", x.rota(shift, father), was);
                due(9, "shift(" + shift + ", 0)", x.shift(shift, 0), father);
                was = father;
            }
            for (int other = 0; other < 8; other++) {
                due(9, "shift(" + other + ", 0)", x.shift(other, 0), other <= shift ? 1 : NONE);
            }
        }
    }

    /** "Of a SHIFT of the next DAY": the first is as fit as it is now, and asking changes nothing. */
    private static void shiftTellsTheNextDay() {
        for (int fit = 0; fit <= 9; fit++) {
            RotaFathers x = caveWith("f09,c15,s29,p33;" + fit, "31203120");
            RotaFathers y = caveWith("f09,c15,s29,p33;" + fit, "31203120");
            due(9, "shift(0, 1)", x.shift(0, 1), fit);
            due(18, "count(1)", x.count(1), fit);
            told(x);
            alike(9, "asking changed nothing", x, y);
        }
    }

    private static void dayLeavesRotaFoundAndPage() {
        RotaFathers x = caveWith("f09,c15,s29,p33;5", "3120-120");
        x.found(0, 5);
        x.found(8, 2);
        write(x, "f0;");
        x.day();
        row(10, x, 0, 3, 1, 2, 0, NONE, 1, 2, 0);
        due(10, "count(6)", x.count(6), 2);
        due(10, "count(7)", x.count(7), 3);
        due(10, "count(8)", x.count(8), 1);
        due(10, "count(9)", x.count(9), 0);
    }

    /** "An object is used for at most 512 calls": up to the last one all is added up. */
    private static void fiveHundredTwelveCalls() {
        RotaFathers x = caveWith("a09,a19;9", "0-1-0-1-");
        int merit = 0;
        // 9 letters, the cave, 8 of the rota are behind us, 4 counts are to come
        for (int call = 19; call <= 508; call++) {
            merit += x.day();
        }
        due(18, "count(3)", x.count(3), merit);
        due(18, "count(3) is the days' merit", merit, 9 + 9 + 11 + 11 + 489L * 44);
        due(18, "count(5)", x.count(5), 490);
        due(18, "count(4)", x.count(4), 0);
        due(18, "count(1), the 512th call", x.count(1), 9);
    }
}
