import java.util.ArrayList;
import java.util.List;

/** The edges of what would be, section 2 and 3, and of promises 9 and 11 to 15. Each test bears its sentence. */
public final class WouldBeEdgeTests extends Calls {
    private static final String[][] PASTS = {
        {"f09,s19;0", "--------"}, {"f09,f19;9", "--------"}, {"a05,p17;8", "01100110"}, {"s05,s19,s29;3", "012-012-"},
        {"f04,c16,s25,p37;5", "0123-10-"}, {"a09,c09,f09,p09;1", "32103210"}, {"f01,p11,c21,s31;9", "3-------"},
        {"f59,a59;7", "0-1-0-1-"}, {"p09,p19;0", "01010101"}, {"f09,f19,f29;0", "01201201"}};

    public static void main(String[] args) {
        bestAgainstAllRotas();
        bestIsAsFitAsToldOrMore();
        bestNobodyIsAheadOfAll();
        bestNone();
        bestChangesNothing();
        bestThirtyTimes();
        swapsAgainstAllPairs();
        swapsOfLikeOnes();
        swapsHaveMoreMerit();
        sixFoundAtMost();
        foundIsOfTheNextDay();
        forgetAll();
        whoAgainstAllRotas();
        whoAsBits();
        lookNone();
        lookLeastOfLikeOnes();
        lookInTheEnd();
        lookWithNobodyAndNothing();
        monthsBySeeds();
        monthsOfOneAndThirtyDays();
        monthsGoOnOneBehindTheOther();
        end();
    }

    /** A past whose day is lived; of the second time on, the demon knows. */
    private static RotaFathers past(int number, boolean knows) {
        RotaFathers x = caveWith(PASTS[number][0], PASTS[number][1]);
        if (knows) {
            x.day();
        }
        return x;
    }

    /** The merit of the next day and how fit it is in the end: by living it. */
    private static int[] lived(RotaFathers x) {
        return new int[] {x.day(), x.count(1)};
    }

    /** BEST "from a SHIFT on (0 to 5) ... of like ones the first by numbers; none", against each rota lived. */
    private static void bestAgainstAllRotas() {
        for (int number = 0; number < PASTS.length; number++) {
            for (int shift = 0; shift <= 5; shift++) {
                bestAgainstAllRotas(number, shift, shift % 2 == 0);
            }
        }
    }

    private static void bestAgainstAllRotas(int number, int shift, boolean knows) {
        int[][] best = new int[10][];
        int fathers = past(number, false).count(0);
        for (int a = NONE; a < fathers; a++) {
            for (int b = NONE; b < fathers; b++) {
                for (int c = NONE; c < fathers; c++) {
                    RotaFathers x = past(number, knows);
                    x.rota(shift, a);
                    x.rota(shift + 1, b);
                    x.rota(shift + 2, c);
                    int[] end = lived(x);
                    for (int fit = 0; fit <= end[1]; fit++) {
                        if (best[fit] == null || best[fit][0] < end[0]) {
                            best[fit] = new int[] {end[0], a, b, c};
                        }
                    }
                }
            }
        }
        for (int fit = 0; fit <= 9; fit++) {
            bests(past(number, knows), shift, fit, best[fit] == null ? new int[] {NONE, NONE, NONE, NONE} : best[fit]);
        }
    }

    /** "the demon is as FIT as told, or more, in the end". */
    private static void bestIsAsFitAsToldOrMore() {
        // it is 6 fit ahead of SHIFT 3 if nobody is there ahead of it, less by any other; five who stand leave 1
        RotaFathers x = caveWith("f09,f19;0", "01010101");
        bests(x, 0, 0, 6 + 5 + 6 + 5 + 4, NONE, NONE, NONE);
        bests(x, 0, 1, 6 + 5 + 6 + 5 + 4, NONE, NONE, NONE);
        bests(x, 0, 2, NONE, NONE, NONE, NONE);
        // in the last SHIFT FATHER 0 leaves it 8 fit, in the one ahead nobody is behind him
        RotaFathers y = caveOf("f09,s11;9");
        bests(y, 5, 8, 9, NONE, NONE, 0);
        bests(y, 5, 9, 9, NONE, 0, NONE);
    }

    /** "nobody is ahead of all". */
    private static void bestNobodyIsAheadOfAll() {
        // nobody, Syrians, and fathers who fall: there is no merit by any, so the first is told
        bests(caveWith("s01,s11;9", "00000000"), 2, 0, 0, NONE, NONE, NONE);
        bests(caveWith("f01,f11,f21,f31;9", "33333333"), 5, 9, 0, NONE, NONE, NONE);
        bests(caveOf("f01,f11;9"), 0, 0, 0, NONE, NONE, NONE);
    }

    /** "NONE: there is none": no merit at all is not none. */
    private static void bestNone() {
        RotaFathers none = caveWith("f09,f19;0", "01010101");
        for (int shift = 0; shift <= 5; shift++) {
            due(11, "best(" + shift + ", 9, 0)", none.best(shift, 9, 0), NONE);
        }
        for (int what = 10; what <= 12; what++) {
            due(11, "best(0, 9, " + what + ")", none.best(0, 9, what), NONE);
        }
        due(11, "count(9), none is done, too", none.count(9), 9);
        RotaFathers zero = caveOf("s09,s19;0");
        due(11, "best(0, 9, 0), no merit", zero.best(0, 9, 0), 0);
    }

    private static void bestChangesNothing() {
        for (int number = 0; number < PASTS.length; number++) {
            RotaFathers x = past(number, true);
            RotaFathers y = past(number, true);
            for (int shift = 0; shift <= 5; shift++) {
                x.best(shift, shift, 0);
                y.best(0, 9, 12);
            }
            row(11, x, 0, caveRow(PASTS[number][1]));
            alike(11, "best() changed nothing but how often it was done", x, y);
        }
    }

    private static int[] caveRow(String rota) {
        int[] row = new int[8];
        for (int s = 0; s < 8; s++) {
            row[s] = rota.charAt(s) == '-' ? NONE : rota.charAt(s) - '0';
        }
        return row;
    }

    /** "best() was done 30 times ever": the 30th is told, the 31st is not. */
    private static void bestThirtyTimes() {
        RotaFathers x = caveOf("f09,f19;9");
        for (int i = 1; i <= 30; i++) {
            due(11, "best(0, 0, 0), time " + i, x.best(0, 0, 0), 26);
            due(18, "count(9)", x.count(9), i);
        }
        for (int i = 0; i < 3; i++) {
            due(11, "best(0, 0, 0), too often", x.best(0, 0, 0), STATE);
            due(18, "count(9)", x.count(9), 30);
        }
    }

    /** SWAPS "how many pairs of SHIFTS (of unlike ones ...)", against each pair lived. */
    private static void swapsAgainstAllPairs() {
        for (int number = 0; number < 2 * PASTS.length; number++) {
            boolean knows = number % 2 == 1;
            int asItIs = lived(past(number / 2, knows))[0];
            int pairs = 0;
            for (int one = 0; one < 8; one++) {
                for (int other = one + 1; other < 8; other++) {
                    RotaFathers x = past(number / 2, knows);
                    x.rota(other, x.rota(one, x.shift(other, 0)));
                    pairs += lived(x)[0] > asItIs ? 1 : 0;
                }
            }
            due(12, "swaps() of " + PASTS[number / 2][0], past(number / 2, knows).swaps(), pairs);
        }
    }

    private static void swapsOfLikeOnes() {
        due(12, "swaps() of nobody", caveOf("f09,f19;5").swaps(), 0);
        due(12, "swaps() of one alone", caveWith("f09,f19;5", "00000000").swaps(), 0);
        // unlike ones of one kind, flaw and strength are changed about, but nothing is more
        due(12, "swaps() of twins", caveWith("f09,f09;5", "01010101").swaps(), 0);
    }

    /** "has more MERIT for all together": as much is not more. SHIFTS 0 and 7 are a pair, and told once. */
    private static void swapsHaveMoreMerit() {
        due(12, "swaps(): 9 by all but SHIFT 0", caveWith("f09,s19;8", "0-------").swaps(), 7);
        due(12, "swaps(): 9 as it is, as much by others", caveWith("f09,s19;9", "0-------").swaps(), 0);
        due(12, "swaps(): 9 by all but SHIFT 0, a Syrian in each", caveWith("f09,s19;8", "01111111").swaps(), 7);
        due(12, "swaps(): a fall gains nothing", caveWith("f08,s19;8", "0-------").swaps(), 0);
        due(12, "swaps(): from SHIFT 7 to 0 alone", caveWith("f08,s19;8", "-------0").swaps(), 1);
    }

    /** "FOUND (6 at most)": "It is FOUND: how much is", also twice the same, also what cannot be so. */
    private static void sixFoundAtMost() {
        RotaFathers same = caveOf("f01,f01;0");
        RotaFathers unlike = caveOf("f01,f01;0");
        RotaFathers edges = caveOf("f01,f01;0");
        for (int i = 1; i <= 6; i++) {
            due(13, "found(8, 9)", same.found(8, 9), i);
            due(13, "found(3, " + i + ")", unlike.found(3, i), i);
            due(13, "found at the edges", edges.found(i % 2 * 8, i / 2 % 2 * 9), i);
            due(18, "count(6)", same.count(6), i);
        }
        due(13, "found(8, 9)", same.found(8, 9), FULL);
        due(13, "found(0, 0)", unlike.found(0, 0), FULL);
        due(13, "forget()", edges.forget(), 6);
        due(13, "found(0, 0)", edges.found(0, 0), 1);
        due(9, "shift(0, 4)", same.shift(0, 4), 19);
        due(9, "shift(0, 4)", unlike.shift(0, 4), 0);
        due(9, "shift(0, 4)", edges.shift(0, 4), 19);
    }

    /** "on the next DAY": what is FOUND stays, and is held against the day that comes next. */
    private static void foundIsOfTheNextDay() {
        RotaFathers x = caveOf("f09,f19;4");
        x.found(0, 4);
        due(9, "shift(3, 4)", x.shift(3, 4), 19);
        x.day();
        due(18, "count(6)", x.count(6), 1);
        due(9, "shift(3, 4), it is 9 fit by now", x.shift(3, 4), 0);
        x.forget();
        x.found(0, 9);
        due(9, "shift(3, 4)", x.shift(3, 4), 19);
    }

    /** "Nothing is FOUND any more: how much was": of none, one, six, without a cave. */
    private static void forgetAll() {
        due(14, "forget() without a cave", new RotaFathers().forget(), 0);
        for (int much = 0; much <= 6; much++) {
            RotaFathers x = caveWith("f04,c16,s25,p37;5", "0123-10-");
            for (int i = 0; i < much; i++) {
                x.found(i, 9 - i);
            }
            due(14, "forget() of " + much, x.forget(), much);
            due(14, "forget() again", x.forget(), 0);
            due(18, "count(6)", x.count(6), 0);
            alike(14, "nothing is found any more", x, caveWith("f04,c16,s25,p37;5", "0123-10-"));
        }
    }

    /** All the nine of how fit it is on the day, told by the calls of another object. */
    private static int[] fitOf(int number, boolean knows, int shift, int who) {
        RotaFathers x = past(number, knows);
        x.rota(shift, who);
        int[] ahead = new int[9];
        for (int s = 0; s < 8; s++) {
            ahead[s] = x.shift(s, 1);
        }
        ahead[8] = x.count(10);
        return ahead;
    }

    /** WHO and LOOK, against the day of each who could be there; what is found is so for some, or for none. */
    private static void whoAgainstAllRotas() {
        for (int number = 0; number < PASTS.length; number++) {
            for (int shift = 0; shift < 8; shift++) {
                boolean knows = shift % 3 == 1;
                int fathers = past(number, false).count(0);
                for (int who = NONE; who < fathers; who++) {
                    int[] told = fitOf(number, knows, shift, who);
                    for (int place = 0; place <= 8; place++) {
                        whoByFound(number, knows, shift, new int[][] {{place, told[place]}});
                        whoByFound(number, knows, shift, new int[][] {{place, (told[place] + 1) % 10}, {8, told[8]}});
                    }
                    whoByFound(number, knows, shift, new int[][] {{0, told[0]}, {4, told[4]}, {8, told[8]}, {shift, told[shift]}});
                }
                whoByFound(number, knows, shift, new int[][] {});
            }
        }
    }

    private static void whoByFound(int number, boolean knows, int shift, int[][] found) {
        RotaFathers x = past(number, knows);
        for (int[] one : found) {
            x.found(one[0], one[1]);
        }
        int bits = 0;
        List<int[]> left = new ArrayList<>();
        for (int who = NONE; who < x.count(0); who++) {
            int[] told = fitOf(number, knows, shift, who);
            boolean so = true;
            for (int[] one : found) {
                so &= told[one[0]] == one[1];
            }
            if (so) {
                bits += who == NONE ? 16 : 1 << who;
                left.add(told);
            }
        }
        due(9, "shift(" + shift + ", 4) of past " + number, x.shift(shift, 4), bits);
        due(9, "shift(" + shift + ", 5) of past " + number, x.shift(shift, 5), look(left));
    }

    private static int look(List<int[]> left) {
        int least = MAX;
        int look = NONE;
        for (int place = 0; place <= 8 && !left.isEmpty(); place++) {
            int worst = 0;
            for (int[] one : left) {
                int alike = 0;
                for (int[] other : left) {
                    alike += one[place] == other[place] ? 1 : 0;
                }
                worst = Math.max(worst, alike);
            }
            if (worst < least) {
                least = worst;
                look = place;
            }
        }
        return look;
    }

    /** "as bits (1 for FATHER 0, 2 for FATHER 1, and so on; 16 for nobody)": all, each alone, nobody, none. */
    private static void whoAsBits() {
        due(9, "WHO of two", caveOf("f01,f01;0").shift(7, 4), 19);
        due(9, "WHO of three", caveOf("f01,f01,f01;0").shift(0, 4), 23);
        due(9, "WHO of four", caveOf("f01,f01,f01,f01;0").shift(7, 4), 31);
        for (int father = 0; father < 4; father++) {
            StringBuilder text = new StringBuilder("f11,f11,f11,f11;5");
            text.setCharAt(4 * father + 2, '9');
            RotaFathers x = caveOf(text.toString());
            x.found(1, 4);
            due(9, "WHO alone", x.shift(0, 4), 1 << father);
            x.forget();
            x.found(1, 7);
            due(9, "WHO: nobody", x.shift(0, 4), 16);
            x.forget();
            x.found(1, 6);
            due(9, "WHO: all others", x.shift(0, 4), 15 - (1 << father));
            x.forget();
            x.found(1, 5);
            due(9, "WHO: none", x.shift(0, 4), 0);
        }
    }

    /** "none, if there are none". */
    private static void lookNone() {
        RotaFathers x = caveOf("f05,s19;5");
        x.found(0, 4);
        for (int shift = 0; shift < 8; shift++) {
            due(9, "shift(" + shift + ", 4)", x.shift(shift, 4), 0);
            due(9, "shift(" + shift + ", 5)", x.shift(shift, 5), NONE);
        }
    }

    /** "of like ones the least": also if one alone is left, or none differs. */
    private static void lookLeastOfLikeOnes() {
        RotaFathers alone = caveOf("f09,s19;5");
        alone.found(1, 4);
        due(9, "LOOK, one alone", alone.shift(0, 5), 0);
        due(9, "LOOK, none differs", caveWith("s09,s19;5", "--------").shift(3, 5), 0);
        due(9, "LOOK, ahead of 1, 2 and 3 they differ", caveOf("f09,s19;1").shift(0, 5), 1);
    }

    /** "(8: in the end)". */
    private static void lookInTheEnd() {
        due(9, "LOOK of the last SHIFT", caveOf("f09,p19;9").shift(7, 5), 8);
        RotaFathers zero = caveWith("f09,f19,s29;0", "01010101");
        due(9, "shift(7, 1)", zero.shift(7, 1), 0);
        due(9, "LOOK of the last SHIFT, 0 fit", zero.shift(7, 5), 8);
    }

    /** 0 FIT is told apart like any other; nobody is one of these. */
    private static void lookWithNobodyAndNothing() {
        // ahead of 1 are 0, 0, 2, 2 (nobody): two at worst; it never is less
        due(9, "LOOK: 0 0 2 2", caveOf("f01,f11,s29;0").shift(0, 5), 1);
        // ahead of 1 are 0, 0, 0, 2, 2: three at worst; ahead of 2 all are 2 or 4
        due(9, "LOOK: 0 0 0 2 2", caveWith("f01,f11,f21,s29;0", "-3333333").shift(0, 5), 1);
        // fathers leave 0 ahead of 1, of 2; a spoiler 1, then 0 and nobody 2, then 1
        RotaFathers x = caveWith("f09,p19;0", "-0------");
        due(9, "LOOK: 0 1 2", x.shift(0, 5), 1);
        x.found(2, 0);
        due(9, "WHO: 0 fit ahead of 2", x.shift(0, 4), 3);
        due(9, "LOOK: 0 1", x.shift(0, 5), 1);
    }

    private static long seedBehind(int days, long seed) {
        long s = seed;
        for (int i = 0; i < 8 * days; i++) {
            s = Math.floorMod(1103515245L * s + 12345L, 1L << 31);
        }
        return s;
    }

    /** DRAWS: "1103515245 times it and 12345, its rest by 2 to the 31": the last SEED, told by hand for some. */
    private static void monthsBySeeds() {
        RotaFathers x = caveOf("f09,s19;5");
        long[][] byHand = {{0, 1293799192L}, {1, 486256185L}, {MAX, 2101342199L}};
        for (long[] one : byHand) {
            due(15, "months(1, " + one[0] + ", 2)", x.months(1, (int) one[0], 2), one[1]);
        }
        for (int days = 1; days <= 30; days++) {
            for (int seed : new int[] {0, 1, 12345, 65535, 65536, 1 << 30, MAX - 1, MAX}) {
                due(15, "months(" + days + ", " + seed + ", 2)", x.months(days, seed, 2), seedBehind(days, seed));
            }
        }
    }

    /** "eight DRAWS of 1 more than there are FATHERS (SHIFT by SHIFT; the greatest: nobody)": as if each day was lived. */
    private static void monthsOfOneAndThirtyDays() {
        for (int number = 0; number < PASTS.length; number++) {
            for (int days : new int[] {1, 2, 29, 30}) {
                for (int seed : new int[] {0, 7, 65535, MAX}) {
                    monthsAsLived(number, false, days, seed);
                    monthsAsLived(number, true, days, seed);
                }
            }
        }
    }

    private static void monthsAsLived(int number, boolean knows, int days, int seed) {
        RotaFathers x = past(number, knows);
        RotaFathers lived = past(number, knows);
        int falls = lived.count(4);
        int fathers = lived.count(0);
        int merit = 0;
        long s = seed;
        for (int d = 0; d < days; d++) {
            for (int shift = 0; shift < 8; shift++) {
                s = Math.floorMod(1103515245L * s + 12345L, 1L << 31);
                int drawn = (int) (s / 65536 % (fathers + 1));
                lived.rota(shift, drawn == fathers ? NONE : drawn);
            }
            merit += lived.day();
        }
        String call = "months(" + days + ", " + seed + ", ";
        due(15, call + "0) of past " + number, x.months(days, seed, 0), merit);
        due(15, call + "1) of past " + number, x.months(days, seed, 1), lived.count(4) - falls);
        due(15, call + "2) of past " + number, x.months(days, seed, 2), s);
        alike(15, "they would be, but are not", x, past(number, knows));
    }

    /** "one behind the other": a month of n days and one more goes on with the last SEED. */
    private static void monthsGoOnOneBehindTheOther() {
        RotaFathers x = caveOf("a09,c18,p27;5");
        for (int days = 1; days < 30; days++) {
            due(15, "the seed of one day more", x.months(days + 1, 9, 2), x.months(1, x.months(days, 9, 2), 2));
            boolean more = x.months(days + 1, 9, 0) >= x.months(days, 9, 0);
            due(15, "merit is never less by one day more", more ? 1 : 0, 1);
        }
    }
}
