/** Promises 13, 16 and 17: rules, faults, fault. */
public final class JudgingTest {
    private static final Checks CHECKS = new Checks();

    private static void dueFaults(String name, CanonMaker x, int[]... want) {
        CHECKS.dueFaults(name, x, want);
    }

    private static void due(String call, int got, int want) {
        CHECKS.due(call, got, want);
    }

    private static int[] f(int time, int rule, int a, int b) {
        return new int[] {time, rule, a, b};
    }

    /** A subject of pitches, each of one length. */
    private static CanonMaker subject(int rules, int length, int... pitches) {
        CanonMaker x = new CanonMaker();
        for (int p : pitches) {
            x.note(p, length);
        }
        x.rules(rules);
        return x;
    }

    public static void main(String[] args) {
        refusals();
        spanAndScale();
        leaps();
        leapsInRound();
        consonance();
        fourths();
        passing();
        passingNeedsItsPitches();
        parallels();
        parallelsOverTheRound();
        hidden();
        crossing();
        order();
        manyMoments();
        CHECKS.finish();
    }

    private static void refusals() {
        CanonMaker x = subject(1, 4, 60, 62);
        x.span(61, 127);
        due("fault(0, 4)", x.fault(0, 4), -2);
        due("fault(0, -1)", x.fault(0, -1), -2);
        due("fault(-1, 0)", x.fault(-1, 0), -1);
        due("fault(1, 9)", x.fault(1, 9), -1);
        due("fault(MAX, 0)", x.fault(Integer.MAX_VALUE, 0), -1);
        due("fault(MIN, 0)", x.fault(Integer.MIN_VALUE, 0), -1);
        x.round(8);
        due("a line as long as the round", x.faults(), 1);
        x.round(7);
        due("faults()", x.faults(), -3);
        due("fault(-1, 9)", x.fault(-1, 9), -3);
        x.round(15);
        x.voice(3, 50, 0, 0, 2);
        due("faults() with a slow line", x.faults(), -3);
        x.off(3);
        due("without it", x.faults(), 1);
    }

    private static void spanAndScale() {
        CanonMaker x = subject(0, 2, 59, 60, -1, 72, 73, -2);
        x.span(60, 72);
        dueFaults("no rule is on", x);
        x.rules(1);
        dueFaults("SPAN", x, f(0, 1, 0, 0), f(8, 1, 0, 0));
        x.rules(2);
        x.scale(1);
        dueFaults("SCALE", x, f(0, 2, 0, 0), f(8, 2, 0, 0));
        CanonMaker low = subject(2, 1, 1);
        low.voice(1, 0, -2, 0, 1);
        low.scale(1 << 11 | 1 << 1);
        dueFaults("-1 is 11 modulo 12", low);
        low.scale(1 << 1);
        dueFaults("and nothing else", low, f(0, 2, 1, 1));
    }

    private static void leaps() {
        CanonMaker x = subject(128, 1, 60, 72, 59, 65, 75, 64, -1, 80, -2, 60, 73);
        dueFaults("LEAPS", x, f(2, 128, 0, 0), f(3, 128, 0, 0), f(4, 128, 0, 0), f(5, 128, 0, 0), f(10, 128, 0, 0));
        CanonMaker fine = subject(128, 1, 60, 69, 60, 67, 60, 65, 60, 72, 60, 60);
        dueFaults("no LEAPS", fine);
        fine.voice(1, 0, 0, 1, 1);
        dueFaults("none inverted", fine);
    }

    private static void leapsInRound() {
        CanonMaker x = subject(128, 2, 60, 64, 66);
        x.voice(1, 1, 0, 0, 1);
        x.round(6);
        dueFaults("the last one is before the first one", x, f(0, 128, 0, 0), f(1, 128, 1, 1));
        x.round(7);
        dueFaults("not in a longer round", x);
        CanonMaker rest = subject(128, 2, 60, 66, -1);
        rest.round(6);
        dueFaults("not behind a rest", rest, f(2, 128, 0, 0));
        CanonMaker one = subject(255, 2, 60);
        one.round(2);
        dueFaults("a note that follows itself", one);
    }

    private static void consonance() {
        for (int k = -24; k <= 24; k++) {
            CanonMaker x = subject(4, 2, 60);
            x.voice(1, 0, k, 0, 1);
            int m = Math.abs(k) % 12;
            boolean good = m == 0 || m == 3 || m == 4 || m == 7 || m == 8 || m == 9;
            due("consonance of " + k, x.faults(), good ? 0 : 1);
        }
        CanonMaker held = subject(4, 4, 60, 61);
        held.voice(2, 2, 1, 0, 1);
        dueFaults("one of both is struck", held, f(2, 4, 0, 2), f(6, 4, 0, 2));
        CanonMaker silent = subject(4, 1, 60, -1);
        silent.voice(1, 1, 1, 0, 1);
        dueFaults("with a rest", silent);
        CanonMaker open = subject(4, 1, -2);
        open.voice(1, 0, 1, 0, 1);
        dueFaults("open ones", open);
    }

    private static void fourths() {
        CanonMaker x = subject(4, 1, 60);
        x.voice(1, 0, 5, 0, 1);
        dueFaults("a fourth", x, f(0, 4, 0, 1));
        x.voice(2, 0, -7, 0, 1);
        dueFaults("a fourth above another voice", x);
        x.voice(2, 0, 0, 0, 1);
        dueFaults("not if it is as low as one of both", x, f(0, 4, 0, 1), f(0, 4, 1, 2));
        x.voice(2, 0, 9, 0, 1);
        dueFaults("not if it is above", x, f(0, 4, 0, 1));
        CanonMaker open = subject(4, 1, 60, -2);
        open.pitch(1, 65);
        open.voice(1, 0, 0, 2, 1);
        dueFaults("both fourths", open, f(0, 4, 0, 1), f(1, 4, 0, 1));
        open.note(-2, 1);
        open.voice(1, 0, 0, 0, 1);
        open.voice(2, 1, 0, 0, 1);
        open.voice(3, 0, 0, 3, 1);
        // At 1 there are 65 65 60 55, at 2 two open ones, 65 and 60.
        dueFaults("open ones leave it open at 2", open, f(1, 4, 0, 3), f(1, 4, 1, 3), f(1, 4, 2, 3));
        open.pitch(2, 63);
        // At 0 there are 60 60 and 57, at 2 there are 63 63 65 60.
        dueFaults("no longer", open, f(1, 4, 0, 3), f(1, 4, 1, 3), f(1, 4, 2, 3),
            f(2, 4, 0, 2), f(2, 4, 1, 2), f(2, 4, 2, 3));
    }

    private static void passing() {
        // The slow voice holds 60, then 62 from 3 on.
        CanonMaker held = new CanonMaker();
        held.note(60, 1);
        held.note(62, 1);
        held.note(64, 2);
        held.voice(1, 0, 0, 0, 3);
        held.rules(4);
        dueFaults("without PASSING", held, f(1, 4, 0, 1), f(3, 4, 0, 1));
        held.rules(12);
        dueFaults("62 passes; at 3 a held 64 and 62, which passes too", held);
        held.beat(1);
        dueFaults("never on a beat", held, f(1, 4, 0, 1), f(3, 4, 0, 1));
        held.beat(3);
        dueFaults("on the beat of 3", held, f(3, 4, 0, 1));
        held.beat(2);
        held.pitch(2, 61);
        dueFaults("62 turns back; 61 is on a beat", held, f(1, 4, 0, 1), f(2, 4, 0, 1), f(3, 4, 0, 1));
        held.pitch(2, 65);
        dueFaults("3 is no step; 65 is on a beat", held, f(1, 4, 0, 1), f(2, 4, 0, 1));
        held.rules(8);
        dueFaults("PASSING alone", held);
    }

    private static void passingNeedsItsPitches() {
        CanonMaker x = new CanonMaker();
        x.note(60, 1);
        x.note(62, 1);
        x.note(-2, 2);
        x.voice(1, 0, 0, 0, 3);
        x.rules(12);
        dueFaults("what is behind is open", x);
        x.pitch(2, -1);
        dueFaults("there is none behind", x, f(1, 4, 0, 1));
        x.pitch(2, 66);
        dueFaults("it leaps, to one with none behind it", x, f(1, 4, 0, 1), f(2, 4, 0, 1));
        CanonMaker both = new CanonMaker();
        both.note(-2, 1);
        both.note(62, 1);
        both.note(64, 1);
        both.note(61, 1);
        both.rules(12);
        both.voice(1, 1, 0, 2, 1);
        // At 1 both strike 62 and 61: 62 is between an open one and 64, 61 has none before it.
        dueFaults("one without neighbours asks for none of the other's", both, f(1, 4, 0, 1), f(3, 4, 0, 1));
        CanonMaker ring = new CanonMaker();
        ring.note(62, 1);
        ring.note(64, 1);
        ring.note(60, 4);
        ring.voice(1, 3, 0, 0, 1);
        ring.rules(12);
        ring.beat(64);
        ring.round(6);
        dueFaults("the first one passes from the last one", ring, f(0, 4, 0, 1));
        ring.round(7);
        dueFaults("not in a longer round", ring, f(0, 4, 0, 1), f(3, 4, 0, 1));
    }

    private static void parallels() {
        CanonMaker x = subject(16, 2, 60, 62, 62, 59);
        x.voice(1, 0, -12, 0, 1);
        dueFaults("octaves", x, f(2, 16, 0, 1), f(6, 16, 0, 1));
        x.voice(1, 0, 7, 0, 1);
        dueFaults("fifths", x, f(2, 16, 0, 1), f(6, 16, 0, 1));
        x.voice(1, 0, 4, 0, 1);
        dueFaults("thirds", x);
        x.voice(1, 0, 0, 1, 1);
        dueFaults("against one another", x);
        x.voice(1, 0, 0, 0, 1);
        x.pitch(1, -1);
        dueFaults("behind a rest", x, f(6, 16, 0, 1));
        x.pitch(3, -2);
        dueFaults("open", x);
        x.pitch(3, 59);
        x.voice(1, 1, 0, 0, 1);
        dueFaults("not struck together", x);
        CanonMaker changed = subject(16, 1, 60, 67);
        changed.voice(1, 0, 0, 0, 1);
        changed.voice(2, 0, 24, 0, 1);
        dueFaults("of three", changed, f(1, 16, 0, 1), f(1, 16, 0, 2), f(1, 16, 1, 2));
    }

    private static void parallelsOverTheRound() {
        CanonMaker x = subject(16, 2, 60, 64);
        x.voice(1, 0, 12, 0, 1);
        x.round(4);
        dueFaults("time 3 is before time 0", x, f(0, 16, 0, 1), f(2, 16, 0, 1));
        x.round(5);
        dueFaults("silence is before time 0", x, f(2, 16, 0, 1));
    }

    private static void hidden() {
        // Voice 0 has 60 64, voice 1 backward 64 60: they go against one another.
        CanonMaker x = subject(32, 1, 60, 64);
        x.voice(1, 0, 0, 2, 1);
        dueFaults("against one another", x);
        CanonMaker up = hiddenPair(60, 62, 64, 69);
        dueFaults("the upper one leaps", up, f(3, 32, 0, 1));
        CanonMaker step = hiddenPair(60, 62, 67, 69);
        dueFaults("the upper one steps", step);
        CanonMaker same = hiddenPair(60, 64, 62, 64);
        dueFaults("on the same pitch a counts", same, f(3, 32, 0, 1));
        CanonMaker other = hiddenPair(62, 64, 60, 64);
        dueFaults("on the same pitch b does not", other);
        CanonMaker changed = hiddenPair(60, 62, 72, 81);
        dueFaults("from 0 to 7, and from 7 to 0", changed, f(3, 32, 0, 1), f(15, 32, 0, 1));
        changed.rules(16);
        dueFaults("is no parallel", changed);
        CanonMaker open = hiddenPair(60, 62, 64, 69);
        open.pitch(4, -2);
        dueFaults("open", open);
    }

    /** At 3 voice 0 goes from p to q, voice 1 from r to s; at 15 they go from s to r, from q to p. */
    private static CanonMaker hiddenPair(int p, int q, int r, int s) {
        CanonMaker x = new CanonMaker();
        x.note(-1, 2);
        x.note(p, 1);
        x.note(q, 2);
        x.note(-1, 9);
        x.note(s, 1);
        x.note(r, 3);
        x.rules(32);
        x.voice(1, 0, 0, 2, 1);
        return x;
    }

    private static void crossing() {
        CanonMaker x = subject(64, 4, 60, 64);
        x.voice(1, 2, 2, 0, 1);
        dueFaults("a is below b", x, f(2, 64, 0, 1), f(6, 64, 0, 1));
        x.voice(1, 2, 0, 0, 1);
        dueFaults("as high", x);
        x.voice(1, 2, -12, 0, 1);
        x.voice(3, 2, -10, 0, 1);
        dueFaults("of the later voices", x, f(2, 64, 1, 3), f(6, 64, 1, 3));
        x.pitch(0, -2);
        dueFaults("open", x, f(6, 64, 1, 3));
    }

    /** All notes of all voices begin at times of their own, and at others once the voices change. */
    private static void manyMoments() {
        CanonMaker x = subject(3, 16, 60);
        for (int n = 1; n < 24; n++) {
            x.note(60, 16);
        }
        x.span(0, 10);
        x.scale(0);
        for (int shift = 0; shift < 15; shift += 3) {
            for (int v = 1; v < 4; v++) {
                x.voice(v, shift + v, 0, 0, 1);
            }
            due("faults() of 96 moments", x.faults(), 192);
            due("the last one's time", x.fault(191, 0), 23 * 16 + shift + 3);
            due("the last one's rule", x.fault(191, 1), 2);
            due("the last one's voice", x.fault(191, 3), 3);
        }
    }

    private static void order() {
        CanonMaker x = subject(247, 1, 60, 73);
        x.span(0, 12);
        x.scale(0);
        x.voice(1, 0, 12, 0, 1);
        x.voice(2, 0, 1, 0, 1);
        dueFaults("by time, rule, a, b", x,
            f(0, 1, 0, 0), f(0, 1, 1, 1), f(0, 1, 2, 2), f(0, 2, 0, 0), f(0, 2, 1, 1), f(0, 2, 2, 2),
            f(0, 4, 0, 2), f(0, 4, 1, 2), f(0, 64, 0, 1), f(0, 64, 0, 2),
            f(1, 1, 0, 0), f(1, 1, 1, 1), f(1, 1, 2, 2), f(1, 2, 0, 0), f(1, 2, 1, 1), f(1, 2, 2, 2),
            f(1, 4, 0, 2), f(1, 4, 1, 2), f(1, 16, 0, 1), f(1, 64, 0, 1), f(1, 64, 0, 2),
            f(1, 128, 0, 0), f(1, 128, 1, 1), f(1, 128, 2, 2));
    }
}
