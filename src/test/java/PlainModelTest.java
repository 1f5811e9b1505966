import java.util.ArrayList;
import java.util.List;
import java.util.Random;
import java.util.function.Supplier;

/**
 * Promises 14 to 21 against a plain model that goes through all times one by one and judges all
 * of them anew at each step of a search.
 */
public final class PlainModelTest {
    private static final Checks CHECKS = new Checks();
    private static final int OPEN = 1001;
    private static final int SILENT = 1000;

    public static void main(String[] args) {
        Random random = new Random(20261115);
        Model before = new Model();
        for (int run = 0; run < 6000; run++) {
            Model model = randomModel(random, run % 2 == 0);
            compare(run, before, model, random);
            before = model;
        }
        CHECKS.finish();
    }

    /** What an earlier canon leaves behind in an object must not show in a later one. */
    private static CanonMaker make(Model before, Model model) {
        CanonMaker x = new CanonMaker();
        before.putInto(x);
        x.faults();
        x.shifts(1);
        x.solve(20);
        model.putInto(x);
        return x;
    }

    private static void compare(int run, Model before, Model model, Random random) {
        String name = "run " + run + " " + model.tell();
        Supplier<CanonMaker> maker = () -> make(before, model);
        CanonMaker x = maker.get();
        CHECKS.due(name + " size()", x.size(), model.size());
        CHECKS.due(name + " end()", x.end(), model.end());
        for (int v = -1; v <= 4; v++) {
            CanonMaker y = maker.get();
            for (int t = -1; t <= model.end(); t++) {
                CHECKS.due(name + " at(" + v + ", " + t + ")", y.at(v, t), model.at(v, t));
            }
        }
        compareFaults(name, model, maker);
        for (int v = 1; v <= 3 && run % 4 == 0; v++) {
            compareShifts(name, model, maker, v);
        }
        int most = random.nextInt(4) == 0 ? random.nextInt(12) : random.nextInt(600);
        int want = model.solve(most);
        CHECKS.due(name + " solve(" + most + ")", x.solve(most), want);
        if (want != -3) {
            CHECKS.due(name + " steps()", x.steps(), model.steps);
        }
        for (int n = 0; n < model.pitches.size(); n++) {
            CHECKS.due(name + " told(" + n + ", 0)", x.told(n, 0), model.pitches.get(n));
        }
        CHECKS.due(name + " solved faults()", x.faults(), model.tooLong(15) ? -3 : model.faults(15).size());
        compareFaults(name + " solved", model, maker);
    }

    private static void compareFaults(String name, Model model, Supplier<CanonMaker> maker) {
        CanonMaker x = maker.get();
        if (model.tooLong(15)) {
            CHECKS.due(name + " faults()", x.faults(), -3);
            CHECKS.due(name + " fault(0, 0)", x.fault(0, 0), -3);
            return;
        }
        List<int[]> want = model.faults(15);
        CHECKS.due(name + " faults()", x.faults(), want.size());
        CHECKS.due(name + " fault(" + want.size() + ", 0)", x.fault(want.size(), 0), -1);
        for (int k = 0; k < want.size(); k++) {
            // An object is asked for 50 faults, as it has but 512 calls.
            x = k % 50 == 0 ? maker.get() : x;
            for (int what = 0; what < 4; what++) {
                CHECKS.due(name + " fault(" + k + ", " + what + ")", x.fault(k, what), want.get(k)[what]);
            }
        }
    }

    private static void compareShifts(String name, Model model, Supplier<CanonMaker> maker, int v) {
        List<int[]> want = model.shifts(v);
        CanonMaker x = maker.get();
        CHECKS.due(name + " shifts(" + v + ")", x.shifts(v), want == null ? -3 : want.size());
        for (int k = 0; want != null && k < want.size(); k++) {
            if (k > 0 && k % 100 == 0) {
                x = maker.get();
                x.shifts(v);
            }
            CHECKS.due(name + " shift(" + k + ", 0)", x.shift(k, 0), want.get(k)[0]);
            CHECKS.due(name + " shift(" + k + ", 1)", x.shift(k, 1), want.get(k)[1]);
        }
    }

    private static Model randomModel(Random random, boolean open) {
        Model model = new Model();
        int notes = random.nextInt(7) + (random.nextInt(10) == 0 ? 8 : 0);
        int longest = random.nextBoolean() ? 2 : 5;
        int width = random.nextBoolean() ? 5 : 15;
        for (int n = 0; n < notes; n++) {
            int kind = random.nextInt(12);
            model.pitches.add(kind == 0 ? -1 : kind < 5 && open ? -2 : 60 + random.nextInt(width));
            model.lengths.add(1 + random.nextInt(longest));
        }
        for (int v = 1; v < 4; v++) {
            if (random.nextInt(3) > 0) {
                int factor = random.nextInt(3) > 0 ? 1 : 1 + random.nextInt(3);
                int delay = random.nextInt(8) == 0 ? random.nextInt(101) : random.nextInt(9);
                model.voices[v] = new int[] {delay, random.nextInt(25) - 12, random.nextInt(4), factor};
            }
        }
        if (random.nextBoolean()) {
            int size = model.size();
            model.round = random.nextInt(3) > 0 ? Math.min(400, size * (1 + random.nextInt(3))) : random.nextInt(40);
        }
        model.rules = random.nextBoolean() ? random.nextInt(256) : 1 << random.nextInt(8) | random.nextInt(2) * 8;
        model.beat = 1 + random.nextInt(6);
        if (random.nextBoolean()) {
            model.low = 55 + random.nextInt(6);
            model.high = model.low + random.nextInt(15);
        }
        if (random.nextBoolean()) {
            model.scale = random.nextInt(4096) | random.nextInt(4096);
        }
        return model;
    }

    /** A note of a line: when it begins, how long it is, its pitch or SILENT or OPEN. */
    private record Sound(int begin, int length, int pitch) { }

    /** The document's words, one after the other. */
    private static final class Model {
        final List<Integer> pitches = new ArrayList<>();
        final List<Integer> lengths = new ArrayList<>();
        /** Delay, interval, mode, factor; null is off. */
        final int[][] voices = {{0, 0, 0, 1}, null, null, null};
        int low = 0;
        int high = 127;
        int scale = 4095;
        int beat = 4;
        int round = 0;
        int rules = 0;
        int steps = 0;

        void putInto(CanonMaker x) {
            x.cut(0);
            for (int n = 0; n < pitches.size(); n++) {
                x.note(pitches.get(n), lengths.get(n));
            }
            for (int v = 1; v < 4; v++) {
                x.off(v);
                if (voices[v] != null) {
                    x.voice(v, voices[v][0], voices[v][1], voices[v][2], voices[v][3]);
                }
            }
            x.span(low, high);
            x.scale(scale);
            x.beat(beat);
            x.round(round);
            x.rules(rules);
        }

        String tell() {
            StringBuilder text = new StringBuilder(pitches + " " + lengths + " voices");
            for (int v = 1; v < 4; v++) {
                text.append(' ').append(java.util.Arrays.toString(voices[v]));
            }
            return text + " span " + low + ".." + high + " scale " + scale + " beat " + beat
                + " round " + round + " rules " + rules;
        }

        int size() {
            int sum = 0;
            for (int length : lengths) {
                sum += length;
            }
            return sum;
        }

        int end() {
            int last = round;
            for (int[] v : voices) {
                if (round == 0 && v != null) {
                    last = Math.max(last, v[0] + size() * v[3]);
                }
            }
            return last;
        }

        boolean tooLong(int on) {
            for (int v = 0; v < 4; v++) {
                if ((on >> v & 1) != 0 && voices[v] != null && round > 0 && size() * voices[v][3] > round) {
                    return true;
                }
            }
            return false;
        }

        List<Sound> line(int v) {
            int centre = -1;
            for (int n = pitches.size() - 1; n >= 0; n--) {
                centre = pitches.get(n) == -1 ? centre : pitches.get(n);
            }
            List<Sound> line = new ArrayList<>();
            boolean inverted = voices[v][2] % 2 == 1;
            int begin = voices[v][0];
            for (int i = 0; i < pitches.size(); i++) {
                int n = voices[v][2] >= 2 ? pitches.size() - 1 - i : i;
                int p = pitches.get(n);
                int sounds;
                if (p == -1) {
                    sounds = SILENT;
                } else if (p == -2 || inverted && centre == -2) {
                    sounds = OPEN;
                } else if (inverted) {
                    sounds = centre + (centre - p) + voices[v][1];
                } else {
                    sounds = p + voices[v][1];
                }
                int length = lengths.get(n) * voices[v][3];
                line.add(new Sound(begin, length, sounds));
                begin += length;
            }
            return line;
        }

        boolean covers(Sound s, int time) {
            return round > 0 ? Math.floorMod(time - s.begin, round) < s.length
                : time >= s.begin && time < s.begin + s.length;
        }

        /** Which of a line's notes is there at a time: the first one; -1 for none. */
        int index(List<Sound> line, int time) {
            for (int i = 0; i < line.size(); i++) {
                if (covers(line.get(i), time)) {
                    return i;
                }
            }
            return -1;
        }

        int at(int v, int time) {
            if (v < 0 || v > 3 || voices[v] == null) {
                return 1002;
            }
            return time < 0 || time >= end() ? SILENT : pitchAt(line(v), time);
        }

        int pitchAt(List<Sound> line, int time) {
            int i = index(line, time);
            return i < 0 ? SILENT : line.get(i).pitch;
        }

        boolean struck(List<Sound> line, int time) {
            int i = index(line, time);
            if (i < 0 || line.get(i).pitch == SILENT) {
                return false;
            }
            int begin = line.get(i).begin;
            return round > 0 ? begin % round == time : begin == time;
        }

        /** The pitch of the neighbour by so many places; SILENT if there is none. */
        int beside(List<Sound> line, int time, int by) {
            int i = index(line, time) + by;
            int length = 0;
            for (Sound s : line) {
                length += s.length;
            }
            if (round > 0 && length == round) {
                i = Math.floorMod(i, line.size());
            }
            return i < 0 || i >= line.size() ? SILENT : line.get(i).pitch;
        }

        List<int[]> faults(int on) {
            List<List<Sound>> lines = new ArrayList<>();
            for (int v = 0; v < 4; v++) {
                boolean there = (on >> v & 1) != 0 && voices[v] != null;
                lines.add(there ? line(v) : new ArrayList<>());
            }
            List<int[]> faults = new ArrayList<>();
            for (int time = 0; time < end(); time++) {
                for (int rule = 1; rule <= 128; rule *= 2) {
                    if ((rules & rule) != 0 && rule != 8) {
                        addFaults(faults, lines, time, rule);
                    }
                }
            }
            return faults;
        }

        void addFaults(List<int[]> faults, List<List<Sound>> lines, int time, int rule) {
            boolean single = rule == 1 || rule == 2 || rule == 128;
            for (int a = 0; a < 4; a++) {
                for (int b = a; b < 4; b++) {
                    boolean there = pitchAt(lines.get(a), time) < SILENT && pitchAt(lines.get(b), time) < SILENT;
                    if (!there || single != (a == b)) {
                        continue;
                    }
                    if (single ? alone(lines.get(a), time, rule) : together(lines, a, b, time, rule)) {
                        faults.add(new int[] {time, rule, a, b});
                    }
                }
            }
        }

        boolean alone(List<Sound> line, int time, int rule) {
            if (!struck(line, time)) {
                return false;
            }
            int p = pitchAt(line, time);
            if (rule == 1) {
                return !(low <= p && p <= high);
            }
            if (rule == 2) {
                return (scale & 1 << (p + 1200) % 12) == 0;
            }
            int q = beside(line, time, -1);
            int d = Math.abs(p - q);
            return q < SILENT && (d > 12 || d == 6 || d == 10 || d == 11);
        }

        boolean together(List<List<Sound>> lines, int a, int b, int time, int rule) {
            boolean struckA = struck(lines.get(a), time);
            boolean struckB = struck(lines.get(b), time);
            int pa = pitchAt(lines.get(a), time);
            int pb = pitchAt(lines.get(b), time);
            int k = Math.abs(pa - pb) % 12;
            if (rule == 64) {
                return (struckA || struckB) && pa < pb;
            }
            if (rule == 4) {
                return (struckA || struckB) && dissonant(lines, pa, pb, time) && !passing(lines, a, b, time);
            }
            int before = time > 0 ? time - 1 : round > 0 ? round - 1 : -1;
            if (!struckA || !struckB || before < 0) {
                return false;
            }
            int qa = pitchAt(lines.get(a), before);
            int qb = pitchAt(lines.get(b), before);
            if (qa >= SILENT || qb >= SILENT || Integer.signum(pa - qa) * Integer.signum(pb - qb) != 1) {
                return false;
            }
            int old = Math.abs(qa - qb) % 12;
            if (k != 0 && k != 7) {
                return false;
            }
            return rule == 16 ? k == old : k != old && (pa >= pb ? Math.abs(pa - qa) : Math.abs(pb - qb)) > 2;
        }

        boolean dissonant(List<List<Sound>> lines, int pa, int pb, int time) {
            int k = Math.abs(pa - pb) % 12;
            if (k == 5) {
                boolean below = false;
                boolean open = false;
                for (List<Sound> line : lines) {
                    int p = pitchAt(line, time);
                    open |= p == OPEN;
                    below |= p < pa && p < pb;
                }
                return !open && !below;
            }
            return k == 1 || k == 2 || k == 6 || k == 10 || k == 11;
        }

        /** Whether PASSING makes it no fault, or leaves it open. */
        boolean passing(List<List<Sound>> lines, int a, int b, int time) {
            if ((rules & 8) == 0 || time % beat == 0) {
                return false;
            }
            boolean allThere = true;
            boolean open = false;
            boolean steps = true;
            for (int v : new int[] {a, b}) {
                List<Sound> line = lines.get(v);
                if (struck(line, time)) {
                    int p = pitchAt(line, time);
                    int q = beside(line, time, -1);
                    int r = beside(line, time, 1);
                    allThere &= q != SILENT && r != SILENT;
                    open |= q == OPEN || r == OPEN;
                    boolean up = (p - q == 1 || p - q == 2) && (r - p == 1 || r - p == 2);
                    boolean down = (q - p == 1 || q - p == 2) && (p - r == 1 || p - r == 2);
                    steps &= up || down;
                }
            }
            return allThere && (open || steps);
        }

        int solve(int most) {
            if (tooLong(15)) {
                return -3;
            }
            steps = 0;
            if (!faults(15).isEmpty()) {
                return 0;
            }
            List<Integer> old = new ArrayList<>(pitches);
            int answer = tell(0, most);
            for (int n = 0; n < pitches.size() && answer != 1; n++) {
                pitches.set(n, old.get(n));
            }
            return answer;
        }

        int tell(int from, int most) {
            int n = from;
            while (n < pitches.size() && pitches.get(n) != -2) {
                n++;
            }
            if (n == pitches.size()) {
                return 1;
            }
            for (int p = low; p <= high; p++) {
                if (steps == most) {
                    return -6;
                }
                steps++;
                pitches.set(n, p);
                int answer = faults(15).isEmpty() ? tell(n + 1, most) : 0;
                if (answer != 0) {
                    return answer;
                }
            }
            pitches.set(n, -2);
            return 0;
        }

        List<int[]> shifts(int v) {
            int on = 1 | 1 << v;
            if (voices[v] == null || pitches.contains(-2) || tooLong(on)) {
                return null;
            }
            List<int[]> found = new ArrayList<>();
            int[] old = voices[v].clone();
            int[][] all = voices.clone();
            for (int w = 1; w < 4; w++) {
                voices[w] = w == v ? voices[w] : null;
            }
            for (int delay = 0; delay <= Math.min(100, size()); delay++) {
                for (int interval = -12; interval <= 12; interval++) {
                    voices[v] = new int[] {delay, interval, old[2], old[3]};
                    if (faults(15).isEmpty()) {
                        found.add(new int[] {delay, interval});
                    }
                }
            }
            System.arraycopy(all, 0, voices, 0, 4);
            return found;
        }
    }
}
