import java.util.ArrayList;
import java.util.Arrays;
import java.util.List;
import java.util.Random;
import java.util.regex.Matcher;
import java.util.regex.Pattern;

/**
 * Long runs of calls, drawn from fixed seeds, on the class and on a second writing of the document
 * (Model, below) that shares no code with it: each answer must be the same.
 */
public final class ModelRuns {
    private static final int RUNS = 600;
    private static final int CALLS = 512;
    private static final int[] ODD = {Integer.MIN_VALUE, -103, -2, -1, 31, 127, 1 << 20, Integer.MAX_VALUE};

    private final Random random;
    private final RotaFathers x = new RotaFathers();
    private final Model model = new Model();
    private String toWrite = "";
    private String lastText = "f01,f01;0";

    private ModelRuns(int seed) {
        random = new Random(seed);
    }

    public static void main(String[] args) {
        for (int run = 0; run < RUNS; run++) {
            String wrong = new ModelRuns(run).play();
            if (wrong != null) {
                System.out.println("run " + run + ": " + wrong);
                System.exit(1);
            }
        }
        System.out.println(RUNS + " runs of " + CALLS + " calls: all answers are alike");
    }

    private String play() {
        for (int call = 0; call < CALLS; call++) {
            String name = toWrite.isEmpty() ? drawName(call) : "letter";
            int a = 0;
            int b = 0;
            int c = 0;
            switch (name) {
                case "letter": a = nextLetter(); break;
                case "write": toWrite = drawText(); name = "blank"; break;
                case "about": a = draw(0, 3); b = draw(0, 7); break;
                case "as": a = draw(0, 3); b = draw(0, 4); break;
                case "rota": a = draw(0, 7); b = draw(-1, 3); break;
                case "shift": a = draw(0, 7); b = draw(0, 5); break;
                case "best": a = draw(0, 5); b = draw(0, 9); c = random.nextBoolean() ? 0 : draw(10, 12); break;
                case "found": a = draw(0, 8); b = likelyFit(a); break;
                case "months": a = draw(1, 30); b = draw(0, Integer.MAX_VALUE - 1); c = draw(0, 2); break;
                case "count": a = draw(0, 10); break;
                default: break;
            }
            long got = onClass(name, a, b, c);
            long want = model.call(name, a, b, c);
            if (got != want) {
                return "call " + call + ", " + name + "(" + a + ", " + b + ", " + c + ") answered " + got + ", due is " + want;
            }
        }
        return null;
    }

    private String drawName(int call) {
        String[] names = {
            "write", "fault", "cave", "cave", "about", "about", "about", "as", "rota", "rota", "rota", "rota", "rota",
            "shift", "shift", "shift", "shift", "day", "best", "swaps", "found", "forget", "months", "image",
            "restore", "count", "count", "digest", "letter"};
        return call == 0 ? "write" : names[random.nextInt(names.length)];
    }

    private int draw(int least, int most) {
        int way = random.nextInt(40);
        if (way == 0) {
            return ODD[random.nextInt(ODD.length)];
        }
        if (way == 1) {
            return random.nextBoolean() ? least - 1 : most + 1;
        }
        return least + random.nextInt(most - least + 1);
    }

    /** Half of what is found is true for the rota as it is, so that WHO is not always empty. */
    private int likelyFit(int shift) {
        if (random.nextBoolean() || shift < 0 || shift > 8 || model.kinds == null) {
            return draw(0, 9);
        }
        return model.dayOf(model.rota, model.fit, model.known).ahead.get(shift);
    }

    private int nextLetter() {
        if (toWrite.isEmpty()) {
            return draw(32, 126);
        }
        int code = toWrite.charAt(0);
        toWrite = toWrite.substring(1);
        return code;
    }

    private String drawText() {
        int fathers = 2 + random.nextInt(3);
        StringBuilder text = new StringBuilder();
        for (int f = 0; f < fathers; f++) {
            text.append(f == 0 ? "" : ",").append("fcspa".charAt(random.nextInt(5)));
            text.append(random.nextInt(6)).append(1 + random.nextInt(9));
        }
        text.append(';').append(random.nextInt(10));
        int way = random.nextInt(12);
        if (way == 0) {
            text.setCharAt(random.nextInt(text.length()), "fcspax,;0569:/ ".charAt(random.nextInt(15)));
        } else if (way == 1) {
            text.setLength(random.nextInt(text.length()));
        } else if (way == 2) {
            text.append("0,;f".charAt(random.nextInt(4)));
        } else if (way == 3) {
            return lastText;
        }
        lastText = text.toString();
        return lastText;
    }

    private long onClass(String name, int a, int b, int c) {
        switch (name) {
            case "letter": return x.letter(a);
            case "blank": return x.blank();
            case "fault": return x.fault();
            case "cave": return x.cave();
            case "about": return x.about(a, b);
            case "as": return x.as(a, b);
            case "rota": return x.rota(a, b);
            case "shift": return x.shift(a, b);
            case "day": return x.day();
            case "best": return x.best(a, b, c);
            case "swaps": return x.swaps();
            case "found": return x.found(a, b);
            case "forget": return x.forget();
            case "months": return x.months(a, b, c);
            case "image": return x.image();
            case "restore": return x.restore();
            case "count": return x.count(a);
            default: return x.digest();
        }
    }

    /** A day as it would be, told by lists. */
    private static final class Told {
        final List<Integer> ahead = new ArrayList<>();
        final List<Integer> heavy = new ArrayList<>();
        final List<Integer> gain = new ArrayList<>();
        final List<Boolean> fall = new ArrayList<>();
        boolean[] known;

        int merit() {
            return gain.stream().mapToInt(Integer::intValue).sum();
        }

        int falls() {
            return (int) fall.stream().filter(f -> f).count();
        }
    }

    /** The document, written a second time. */
    private static final class Model {
        private static final Pattern CAVE = Pattern.compile("[fcspa][0-5][1-9](,[fcspa][0-5][1-9]){1,3};[0-9]");
        String page = "";
        String kinds;
        int[] flaws;
        int[] strengths;
        int[] rota;
        int fit;
        boolean[] known;
        int[] merits;
        int[] falls;
        int days;
        List<int[]> found = new ArrayList<>();
        int reads;
        int bests;
        Model image;

        long call(String name, int a, int b, int c) {
            boolean none = kinds == null;
            boolean shiftOk = !none && a >= 0 && a <= 7;
            boolean fatherOk = !none && a >= 0 && a < kinds.length();
            switch (name) {
                case "letter": return letter(a);
                case "blank": { int had = page.length(); page = ""; return had; }
                case "fault": return fault();
                case "cave": return cave();
                case "about": return !fatherOk ? -101 : b < 0 || b > 7 ? -102 : about(a, b);
                case "as": return !fatherOk ? -101 : b < 0 || b > 4 ? -102 : as(a, b);
                case "rota": return !shiftOk || b < -1 || b >= kinds.length() ? -101 : rota(a, b);
                case "shift": return !shiftOk ? -101 : b < 0 || b > 5 ? -102 : shift(a, b);
                case "day": return none ? -103 : day();
                case "best": return none || a < 0 || a > 5 ? -101 : best(a, b, c);
                case "swaps": return none ? -103 : swaps();
                case "found": return none || a < 0 || a > 8 ? -101 : found(a, b);
                case "forget": { int had = found.size(); found = new ArrayList<>(); return had; }
                case "months": return months(a, b, c);
                case "image": if (none) { return -103; } image = copy(); return days;
                case "restore": return image == null ? -103 : restore();
                case "count": return a < 0 || a > 10 ? -102 : count(a);
                default: return digest();
            }
        }

        int letter(int code) {
            if (code < 32 || code > 126) {
                return -102;
            }
            if (page.length() == 18) {
                return -104;
            }
            page += (char) code;
            return page.length();
        }

        /** The longest beginning that is a cave or could become one. */
        int fault() {
            for (int most = page.length(); most > 0; most--) {
                Matcher m = CAVE.matcher(page.substring(0, most));
                if (m.matches() || m.hitEnd()) {
                    return most;
                }
            }
            return 0;
        }

        int cave() {
            if (!CAVE.matcher(page).matches()) {
                return -103;
            }
            String[] halves = page.split(";");
            String[] fathers = halves[0].split(",");
            kinds = "";
            flaws = new int[fathers.length];
            strengths = new int[fathers.length];
            for (int f = 0; f < fathers.length; f++) {
                kinds += fathers[f].charAt(0);
                flaws[f] = Integer.parseInt(fathers[f].substring(1, 2));
                strengths[f] = Integer.parseInt(fathers[f].substring(2));
            }
            fit = Integer.parseInt(halves[1]);
            rota = new int[] {-1, -1, -1, -1, -1, -1, -1, -1};
            known = new boolean[6];
            merits = new int[fathers.length];
            falls = new int[fathers.length];
            days = 0;
            found = new ArrayList<>();
            image = null;
            page = "";
            reads++;
            return fathers.length;
        }

        Told dayOf(int[] by, int fitAtFirst, boolean[] knownAtFirst) {
            Told told = new Told();
            told.known = knownAtFirst.clone();
            int f = fitAtFirst;
            for (int s = 0; s < 8; s++) {
                told.ahead.add(f);
                int who = by[s];
                char kind = who == -1 ? '-' : kinds.charAt(who);
                int heavy = who == -1 ? 0 : told.known[flaws[who]] ? f + 2 : f;
                boolean sleeps = kind == '-' || kind == 's';
                boolean stands = !sleeps && heavy <= strengths[who] + (kind == 'a' || kind == 'c' && s < 4 ? 2 : 0);
                told.heavy.add(heavy);
                told.gain.add(stands ? heavy : 0);
                told.fall.add(!sleeps && !stands);
                if (who != -1) {
                    told.known[flaws[who]] = true;
                }
                f += sleeps ? 2 : !stands || kind == 'p' ? 1 : -1;
                f = f > 9 ? 9 : f < 0 ? 0 : f;
            }
            told.ahead.add(f);
            return told;
        }

        Told next() {
            return dayOf(rota, fit, known);
        }

        int about(int father, int what) {
            int bits = 0;
            int gains = 0;
            Told next = next();
            for (int s = 0; s < 8; s++) {
                if (rota[s] == father) {
                    bits += 1 << s;
                    gains += next.gain.get(s);
                }
            }
            int[] all = {"fcspa".indexOf(kinds.charAt(father)), flaws[father], strengths[father], merits[father],
                falls[father], bits, known[flaws[father]] ? 1 : 0, gains};
            return all[what];
        }

        int as(int father, int kind) {
            String taken = new String[] {"fcspa", "ca", "s", "p", "a"}[kind];
            return taken.indexOf(kinds.charAt(father)) >= 0 ? father : -1;
        }

        int rota(int shift, int father) {
            int was = rota[shift];
            rota[shift] = father;
            return was;
        }

        /** The days of all who can be there, nobody behind the fathers; null for one who cannot. */
        List<Told> who(int shift) {
            List<Told> all = new ArrayList<>();
            for (int who = 0; who <= kinds.length(); who++) {
                int[] by = rota.clone();
                by[shift] = who == kinds.length() ? -1 : who;
                Told told = dayOf(by, fit, known);
                all.add(found.stream().allMatch(f -> told.ahead.get(f[0]) == f[1]) ? told : null);
            }
            return all;
        }

        int shift(int shift, int what) {
            Told next = next();
            switch (what) {
                case 0: return rota[shift];
                case 1: return next.ahead.get(shift);
                case 2: return next.heavy.get(shift);
                case 3: return next.fall.get(shift) ? 1 : 0;
                default: break;
            }
            List<Told> who = who(shift);
            if (what == 4) {
                int bits = who.get(kinds.length()) == null ? 0 : 16;
                for (int f = 0; f < kinds.length(); f++) {
                    bits += who.get(f) == null ? 0 : 1 << f;
                }
                return bits;
            }
            int look = -1;
            long least = Long.MAX_VALUE;
            for (int place = 8; place >= 0; place--) {
                long worst = 0;
                for (Told one : who) {
                    int at = place;
                    long left = one == null ? 0
                        : who.stream().filter(o -> o != null && o.ahead.get(at).equals(one.ahead.get(at))).count();
                    worst = Math.max(worst, left);
                }
                if (worst > 0 && worst <= least) {
                    least = worst;
                    look = place;
                }
            }
            return look;
        }

        int day() {
            Told next = next();
            for (int s = 0; s < 8; s++) {
                if (rota[s] != -1) {
                    merits[rota[s]] += next.gain.get(s);
                    falls[rota[s]] += next.fall.get(s) ? 1 : 0;
                }
            }
            fit = next.ahead.get(8);
            known = next.known;
            days++;
            return next.merit();
        }

        /** Read backwards, so that the first of like ones is the last that is taken. */
        int best(int shift, int least, int what) {
            if (least < 0 || least > 9 || what != 0 && (what < 10 || what > 12)) {
                return -102;
            }
            if (bests == 30) {
                return -103;
            }
            bests++;
            int n = kinds.length() + 1;
            int[] best = null;
            int most = -1;
            for (int code = n * n * n - 1; code >= 0; code--) {
                int[] by = rota.clone();
                by[shift] = code / n / n - 1;
                by[shift + 1] = code / n % n - 1;
                by[shift + 2] = code % n - 1;
                Told told = dayOf(by, fit, known);
                if (told.ahead.get(8) >= least && told.merit() >= most) {
                    most = told.merit();
                    best = Arrays.copyOfRange(by, shift, shift + 3);
                }
            }
            return best == null ? -1 : what == 0 ? most : best[what - 10];
        }

        int swaps() {
            int pairs = 0;
            for (int i = 0; i < 64; i++) {
                int[] by = rota.clone();
                by[i / 8] = rota[i % 8];
                by[i % 8] = rota[i / 8];
                if (i / 8 < i % 8 && dayOf(by, fit, known).merit() > next().merit()) {
                    pairs++;
                }
            }
            return pairs;
        }

        int found(int shift, int fitThere) {
            if (fitThere < 0 || fitThere > 9) {
                return -102;
            }
            if (found.size() == 6) {
                return -104;
            }
            found.add(new int[] {shift, fitThere});
            return found.size();
        }

        int months(int many, int seed, int what) {
            if (many < 1 || many > 30 || seed < 0 || what < 0 || what > 2) {
                return -102;
            }
            if (kinds == null) {
                return -103;
            }
            long drawn = seed;
            int merit = 0;
            int fell = 0;
            int f = fit;
            boolean[] k = known;
            for (int d = 0; d < many; d++) {
                int[] by = new int[8];
                for (int s = 0; s < 8; s++) {
                    drawn = (1103515245L * drawn + 12345L) % 2147483648L;
                    int one = (int) (drawn / 65536L % (kinds.length() + 1));
                    by[s] = one == kinds.length() ? -1 : one;
                }
                Told told = dayOf(by, f, k);
                merit += told.merit();
                fell += told.falls();
                f = told.ahead.get(8);
                k = told.known;
            }
            return what == 0 ? merit : what == 1 ? fell : (int) drawn;
        }

        Model copy() {
            Model other = new Model();
            carry(this, other);
            return other;
        }

        int restore() {
            carry(image, this);
            return days;
        }

        static void carry(Model from, Model to) {
            to.rota = from.rota.clone();
            to.fit = from.fit;
            to.known = from.known.clone();
            to.merits = from.merits.clone();
            to.falls = from.falls.clone();
            to.days = from.days;
            to.found = new ArrayList<>(from.found);
        }

        int count(int what) {
            boolean none = kinds == null;
            int knownFlaws = 0;
            for (int flaw = 0; !none && flaw < 6; flaw++) {
                knownFlaws += known[flaw] ? 1 : 0;
            }
            int[] all = {none ? 0 : kinds.length(), fit, knownFlaws, none ? 0 : Arrays.stream(merits).sum(),
                none ? 0 : Arrays.stream(falls).sum(), days, found.size(), page.length(), reads, bests,
                none ? 0 : next().ahead.get(8)};
            return all[what];
        }

        long digest() {
            List<Integer> all = new ArrayList<>();
            int fathers = kinds == null ? 0 : kinds.length();
            for (int i = 0; i < fathers * 8; i++) {
                all.add(about(i / 8, i % 8));
            }
            for (int i = 0; kinds != null && i < 48; i++) {
                all.add(shift(i / 6, i % 6));
            }
            if (kinds != null) {
                all.add(swaps());
            }
            page.chars().forEach(all::add);
            for (int what = 0; what <= 10; what++) {
                all.add(count(what));
            }
            long h = 1021;
            for (int one : all) {
                h = 31 * h + one;
            }
            return h;
        }
    }
}
