/** Canons that several tests begin with. */
final class Canons {
    private Canons() { }

    /** A subject of pitches, each of one length. */
    static CanonMaker subject(int rules, int length, int... pitches) {
        CanonMaker x = new CanonMaker();
        for (int p : pitches) {
            x.note(p, length);
        }
        x.rules(rules);
        return x;
    }

    /** A subject of notes, told as {pitch, length}. */
    static CanonMaker notes(int rules, int[]... notes) {
        CanonMaker x = new CanonMaker();
        for (int[] n : notes) {
            x.note(n[0], n[1]);
        }
        x.rules(rules);
        return x;
    }

    /**
     * At 3 voice 0 goes from p to q and voice 1 from r to s; at 15 they go from s to r and from q
     * to p. Voice 1 is the subject backward.
     */
    static CanonMaker moves(int rules, int p, int q, int r, int s) {
        CanonMaker x = notes(rules, new int[][] {{-1, 2}, {p, 1}, {q, 2}, {-1, 9}, {s, 1}, {r, 3}});
        x.voice(1, 0, 0, 2, 1);
        return x;
    }

    /** How many faults there are of a rule, at a time, of two voices. */
    static int count(CanonMaker x, int time, int rule, int a, int b) {
        int count = 0;
        int all = x.faults();
        for (int k = 0; k < all; k++) {
            boolean same = x.fault(k, 0) == time && x.fault(k, 1) == rule && x.fault(k, 2) == a && x.fault(k, 3) == b;
            count += same ? 1 : 0;
        }
        return count;
    }
}
