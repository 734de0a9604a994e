import java.util.ArrayList;
import java.util.Arrays;
import java.util.List;

/** What the tests share: answers that are due, caves by their texts, all that an object tells. */
class Calls {
    static final int NONE = -1, UNKNOWN = -101, OUTSIDE = -102, STATE = -103, FULL = -104;
    static final int MIN = Integer.MIN_VALUE, MAX = Integer.MAX_VALUE;
    private static int wrong = 0;
    private static int checked = 0;

    /** One call, or some, on an object. */
    interface Call {
        long on(RotaFathers x);
    }

    /** Makes an object of the same past each time. */
    interface Past {
        RotaFathers make();
    }

    static void due(int promise, String call, long got, long want) {
        checked++;
        if (got != want) {
            wrong++;
            System.out.println("promise " + promise + ": " + call + " answered " + got + ", due is " + want);
        }
    }

    static void end() {
        System.out.println(checked + " answers looked at, " + wrong + " wrong");
        if (wrong != 0) {
            System.exit(1);
        }
    }

    static RotaFathers write(RotaFathers x, String text) {
        for (char c : text.toCharArray()) {
            x.letter(c);
        }
        return x;
    }

    static RotaFathers caveOf(String text) {
        RotaFathers x = write(new RotaFathers(), text);
        due(5, "cave() of " + text, x.cave(), (text.length() - 1) / 4);
        return x;
    }

    /** By letters: a digit is a father, '-' is nobody. */
    static void setRota(RotaFathers x, String rota) {
        for (int s = 0; s < rota.length(); s++) {
            x.rota(s, rota.charAt(s) == '-' ? NONE : rota.charAt(s) - '0');
        }
    }

    static RotaFathers caveWith(String text, String rota) {
        RotaFathers x = caveOf(text);
        setRota(x, rota);
        return x;
    }

    static void row(int promise, RotaFathers x, int what, int... want) {
        for (int s = 0; s < want.length; s++) {
            due(promise, "shift(" + s + ", " + what + ")", x.shift(s, what), want[s]);
        }
    }

    /** BEST by its four calls: how much MERIT, who is there in the three. */
    static void bests(RotaFathers x, int shift, int fit, int... want) {
        int[] whats = {0, 10, 11, 12};
        for (int i = 0; i < 4; i++) {
            String call = "best(" + shift + ", " + fit + ", " + whats[i] + ")";
            due(11, call, x.best(shift, fit, whats[i]), want[i]);
        }
    }

    /** Numbers that are too small or too large, near and far, and such as look right by their last bits. */
    static int[] outside(int least, int most) {
        return new int[] {MIN, MIN + 1, least - 65536, least - 256, least - 1, most + 1, least + 256, least + 65536,
            MAX - 1, MAX};
    }

    /** All that an object tells as it is; it changes nothing (best() is left out: it counts). */
    static List<Long> told(RotaFathers x) {
        List<Long> all = new ArrayList<>();
        all.add(x.digest());
        all.add((long) x.fault());
        for (int father = 0; father < 4; father++) {
            for (int what = 0; what <= 7; what++) {
                all.add((long) x.about(father, what));
            }
            for (int kind = 0; kind <= 4; kind++) {
                all.add((long) x.as(father, kind));
            }
        }
        for (int shift = 0; shift < 8; shift++) {
            for (int what = 0; what <= 5; what++) {
                all.add((long) x.shift(shift, what));
            }
        }
        for (int what = 0; what <= 10; what++) {
            all.add((long) x.count(what));
        }
        all.add((long) x.swaps());
        all.add((long) x.months(3, 5, 0));
        all.add((long) x.months(3, 5, 1));
        return all;
    }

    /** All that an object tells: as it is, on the next day, and once it is restored. It uses the object up. */
    static List<Long> toldToTheEnd(RotaFathers x) {
        List<Long> all = told(x);
        all.add((long) x.day());
        all.add(x.digest());
        all.add((long) x.restore());
        all.addAll(told(x));
        all.add((long) x.blank());
        return all;
    }

    static void alike(int promise, String what, RotaFathers one, RotaFathers other) {
        due(promise, what, toldToTheEnd(one).equals(toldToTheEnd(other)) ? 1 : 0, 1);
    }

    /** The answer of a refused call, and that nothing has changed by it: a twin without the call tells the same. */
    static void refused(int promise, String call, int want, Call c, Past... pasts) {
        for (int i = 0; i < pasts.length; i++) {
            RotaFathers x = pasts[i].make();
            due(promise, call + ", past " + i, c.on(x), want);
            alike(promise, call + " changed nothing, past " + i, x, pasts[i].make());
        }
    }

    static Past[] joined(Past[] some, Past... more) {
        Past[] all = Arrays.copyOf(some, some.length + more.length);
        System.arraycopy(more, 0, all, some.length, more.length);
        return all;
    }
}
