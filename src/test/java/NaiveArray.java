import java.util.ArrayDeque;
import java.util.Deque;
import java.util.regex.Pattern;

/** The document once more, written for the eye alone: what the program is compared with. */
final class NaiveArray {
    private static final Pattern ORDER = Pattern.compile("w(0|[1-9][0-9]?)=(0|[1-9][0-9]{0,4})|[fm][0-6]|s[1-9]|c");

    private static final class Unit {
        int disc;
        int place;
    }

    private static final class Disc {
        boolean sound = true;
        boolean mended;
        int progress;
        int[] values = new int[9];
        int reads;
        int writes;

        Disc copy() {
            Disc c = new Disc();
            c.sound = sound;
            c.mended = mended;
            c.progress = progress;
            c.values = values.clone();
            c.reads = reads;
            c.writes = writes;
            return c;
        }
    }

    private static final class Saved {
        Disc[] discs = new Disc[7];
        int spares;
        int losses;
    }

    private final Unit[][] stripes = new Unit[21][3];
    private Disc[] discs = new Disc[7];
    private int spares = 2;
    private int losses;
    private final Deque<Saved> saved = new ArrayDeque<>();
    private StringBuilder buffer = new StringBuilder();

    NaiveArray() {
        int[] used = new int[7];
        for (int d = 0; d < 7; d++) {
            discs[d] = new Disc();
        }
        for (int s = 0; s < 21; s++) {
            Unit[] m = new Unit[3];
            int[] on = {s % 7, (s % 7 + 1) % 7, (s % 7 + 3) % 7};
            for (int k = 0; k < 3; k++) {
                m[k] = new Unit();
                m[k].disc = on[k];
                m[k].place = used[on[k]]++;
            }
            int t = s / 7;
            stripes[s][2] = m[t];
            stripes[s][0] = t == 0 ? m[1] : m[0];
            stripes[s][1] = t == 2 ? m[1] : m[2];
        }
    }

    private boolean there(Unit u) {
        Disc d = discs[u.disc];
        return d.sound || d.mended && u.place < d.progress;
    }

    private int value(Unit u) {
        return discs[u.disc].values[u.place];
    }

    private int get(Unit u) {
        discs[u.disc].reads++;
        return value(u);
    }

    private void set(Unit u, int value) {
        discs[u.disc].writes++;
        discs[u.disc].values[u.place] = value;
    }

    private boolean gone(int s, int k) {
        return !there(stripes[s][k]) && !(there(stripes[s][(k + 1) % 3]) && there(stripes[s][(k + 2) % 3]));
    }

    private static void index(boolean right) {
        if (!right) {
            throw new IndexOutOfBoundsException();
        }
    }

    private static void argument(boolean right) {
        if (!right) {
            throw new IllegalArgumentException();
        }
    }

    private static void may(boolean right) {
        if (!right) {
            throw new IllegalStateException();
        }
    }

    private static boolean in(int number, int limit) {
        return 0 <= number && number < limit;
    }

    private void save() {
        Saved s = new Saved();
        for (int d = 0; d < 7; d++) {
            s.discs[d] = discs[d].copy();
        }
        s.spares = spares;
        s.losses = losses;
        saved.addLast(s);
        if (saved.size() > 6) {
            saved.removeFirst();
        }
    }

    private void back() {
        Saved s = saved.removeLast();
        discs = s.discs;
        spares = s.spares;
        losses = s.losses;
    }

    int read(int a) {
        index(in(a, 42));
        may(!gone(a / 2, a % 2));
        save();
        Unit[] s = stripes[a / 2];
        return there(s[a % 2]) ? get(s[a % 2]) : get(s[1 - a % 2]) ^ get(s[2]);
    }

    int write(int a, int v) {
        index(in(a, 42));
        argument(in(v, 65536));
        Unit d = stripes[a / 2][a % 2];
        Unit e = stripes[a / 2][1 - a % 2];
        Unit p = stripes[a / 2][2];
        may(there(d) || there(e) && there(p));
        save();
        if (there(d) && there(p)) {
            int old = get(d);
            int parity = get(p);
            set(d, v);
            set(p, parity ^ old ^ v);
            return 4;
        }
        if (there(d) && !there(p)) {
            set(d, v);
            return 1;
        }
        set(p, get(e) ^ v);
        return 2;
    }

    int fail(int d) {
        index(in(d, 7));
        may(discs[d].sound || discs[d].mended);
        save();
        discs[d].sound = false;
        discs[d].mended = false;
        discs[d].values = new int[9];
        return lost();
    }

    int beginMending(int d) {
        index(in(d, 7));
        may(!discs[d].sound && !discs[d].mended && spares > 0);
        save();
        discs[d].mended = true;
        discs[d].progress = 0;
        return --spares;
    }

    int mend(int steps) {
        argument(1 <= steps && steps <= 9);
        save();
        int made = 0;
        while (made < steps && step()) {
            made++;
        }
        return made;
    }

    private boolean step() {
        for (int d = 0; d < 7; d++) {
            if (discs[d].mended) {
                stepOf(d);
                return true;
            }
        }
        return false;
    }

    private void stepOf(int d) {
        for (int s = 0; s < 21; s++) {
            for (int k = 0; k < 3; k++) {
                Unit u = stripes[s][k];
                if (u.disc == d && u.place == discs[d].progress) {
                    if (gone(s, k)) {
                        losses++;
                    } else {
                        set(u, get(stripes[s][(k + 1) % 3]) ^ get(stripes[s][(k + 2) % 3]));
                    }
                    discs[d].progress++;
                    discs[d].sound = discs[d].progress == 9;
                    discs[d].mended = !discs[d].sound;
                    return;
                }
            }
        }
    }

    int addSpare() {
        may(spares < 5);
        save();
        return ++spares;
    }

    int corrupt(int d, int place, int v) {
        index(in(d, 7) && in(place, 9));
        argument(in(v, 65536));
        Unit u = new Unit();
        u.disc = d;
        u.place = place;
        may(there(u));
        save();
        int old = value(u);
        discs[d].values[place] = v;
        return old;
    }

    int scrub() {
        save();
        int found = 0;
        for (Unit[] s : stripes) {
            if (there(s[0]) && there(s[1]) && there(s[2])) {
                int due = get(s[0]) ^ get(s[1]);
                if (get(s[2]) != due) {
                    found++;
                    set(s[2], due);
                }
            }
        }
        return found;
    }

    int state(int d) {
        index(in(d, 7));
        return discs[d].sound ? 9 : discs[d].mended ? discs[d].progress : -1;
    }

    int unit(int d, int place) {
        index(in(d, 7) && in(place, 9));
        Unit u = new Unit();
        u.disc = d;
        u.place = place;
        return there(u) ? value(u) : -1;
    }

    int peek(int a) {
        index(in(a, 42));
        Unit[] s = stripes[a / 2];
        return gone(a / 2, a % 2) ? -1 : there(s[a % 2]) ? value(s[a % 2]) : value(s[1 - a % 2]) ^ value(s[2]);
    }

    int lost() {
        int n = 0;
        for (int a = 0; a < 42; a++) {
            n += peek(a) == -1 ? 1 : 0;
        }
        return n;
    }

    int spares() {
        return spares;
    }

    int losses() {
        return losses;
    }

    int reads(int d) {
        index(in(d, 7));
        return discs[d].reads;
    }

    int writes(int d) {
        index(in(d, 7));
        return discs[d].writes;
    }

    double balance() {
        double least = Double.MAX_VALUE;
        double greatest = 0;
        for (Disc d : discs) {
            least = Math.min(least, d.reads);
            greatest = Math.max(greatest, d.reads);
        }
        return greatest == 0 ? 1.0 : least / greatest;
    }

    // Undone by hand, as a failure at a full row of saved states would push one out.
    int lostIfFailed(int d) {
        index(in(d, 7));
        Disc before = discs[d];
        discs[d] = before.copy();
        discs[d].sound = false;
        discs[d].mended = false;
        int n = lost();
        discs[d] = before;
        return n;
    }

    int worst() {
        int worst = -1;
        for (int d = 6; d >= 0; d--) {
            if (discs[d].sound && (worst == -1 || lostIfFailed(d) >= lostIfFailed(worst))) {
                worst = d;
            }
        }
        return worst;
    }

    int append(int code) {
        argument(33 <= code && code <= 126);
        may(buffer.length() < 60);
        buffer.append((char) code);
        return buffer.length();
    }

    int clearText() {
        int n = buffer.length();
        buffer = new StringBuilder();
        return n;
    }

    private static boolean isOrder(String order) {
        if (!ORDER.matcher(order).matches()) {
            return false;
        }
        String[] parts = order.substring(1).split("=");
        return order.charAt(0) != 'w' || Integer.parseInt(parts[0]) < 42 && Integer.parseInt(parts[1]) < 65536;
    }

    int run() {
        String[] orders = buffer.toString().split(";", -1);
        for (String order : orders) {
            argument(isOrder(order));
        }
        save();
        buffer = new StringBuilder();
        int done = 0;
        for (String order : orders) {
            Deque<Saved> kept = new ArrayDeque<>(saved);
            try {
                obey(order);
            } catch (IllegalStateException e) {
                return done;
            } finally {
                saved.clear();
                saved.addAll(kept);
            }
            done++;
        }
        return done;
    }

    private void obey(String order) {
        String[] parts = order.substring(1).split("=");
        switch (order.charAt(0)) {
            case 'w':
                write(Integer.parseInt(parts[0]), Integer.parseInt(parts[1]));
                break;
            case 'f':
                fail(Integer.parseInt(parts[0]));
                break;
            case 'm':
                beginMending(Integer.parseInt(parts[0]));
                break;
            case 's':
                mend(Integer.parseInt(parts[0]));
                break;
            default:
                scrub();
                break;
        }
    }

    int undo() {
        may(!saved.isEmpty());
        back();
        return saved.size();
    }

    int savedStates() {
        return saved.size();
    }

    long digest() {
        long[] hash = {4184};
        add(hash, lost(), wrong(), spares, losses, worst());
        for (int d = 0; d < 7; d++) {
            add(hash, state(d), discs[d].reads, discs[d].writes, lostIfFailed(d));
        }
        for (int a = 0; a < 42; a++) {
            add(hash, peek(a));
        }
        for (int d = 0; d < 7; d++) {
            for (int place = 0; place < 9; place++) {
                add(hash, unit(d, place));
            }
        }
        return hash[0];
    }

    int wrong() {
        int n = 0;
        for (Unit[] s : stripes) {
            boolean whole = there(s[0]) && there(s[1]) && there(s[2]);
            n += whole && (value(s[0]) ^ value(s[1]) ^ value(s[2])) != 0 ? 1 : 0;
        }
        return n;
    }

    private static void add(long[] hash, int... values) {
        for (int v : values) {
            hash[0] = 31 * hash[0] + v;
        }
    }
}
