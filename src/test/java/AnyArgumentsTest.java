import java.util.Random;

/** All promises: no call throws, whatever its arguments and whatever was called before it. */
public final class AnyArgumentsTest {
    private static final Checks CHECKS = new Checks();
    private static final int[] EDGES = {Integer.MIN_VALUE, Integer.MIN_VALUE + 1, -25, -3, -2, -1, 0, 1, 2, 3, 4, 5,
        12, 16, 17, 23, 24, 25, 63, 64, 65, 100, 101, 127, 128, 255, 256, 400, 401, 3000, 3001, 4095, 4096,
        Integer.MAX_VALUE - 1, Integer.MAX_VALUE};

    public static void main(String[] args) {
        Random random = new Random(512);
        for (int run = 0; run < 150; run++) {
            CanonMaker x = new CanonMaker();
            for (int call = 0; call < 512; call++) {
                int which = random.nextInt(26);
                int answer = call(x, which, random);
                CHECKS.due("call " + which + " is in the bounds of all answers", inBounds(answer) ? 1 : 0, 1);
            }
        }
        CHECKS.finish();
    }

    private static boolean inBounds(int answer) {
        return answer >= -151 && answer <= 4095;
    }

    private static int some(Random random) {
        return random.nextInt(3) == 0 ? EDGES[random.nextInt(EDGES.length)] : random.nextInt(30) - 2;
    }

    private static int call(CanonMaker x, int which, Random r) {
        switch (which) {
            case 0: return x.pitch(some(r), some(r));
            case 1: return x.told(some(r), some(r));
            case 2: return r.nextInt(5) == 0 ? x.cut(some(r)) : x.size();
            case 3: return x.voice(some(r), some(r), some(r), some(r), some(r));
            case 4: return x.voice(1 + r.nextInt(3), r.nextInt(101), r.nextInt(49) - 24, r.nextInt(4), 1 + r.nextInt(3));
            case 5: return x.off(some(r));
            case 6: return x.span(some(r), some(r));
            case 7: return x.scale(some(r));
            case 8: return x.beat(some(r));
            case 9: return x.round(some(r));
            case 10: return x.round(r.nextInt(2) * 400);
            case 11: return x.rules(some(r));
            case 12: return x.rules(r.nextInt(256));
            case 13: return x.end();
            case 14: return x.at(some(r), some(r));
            case 15: return x.faults();
            case 16: return x.fault(some(r), some(r));
            case 17: return x.solve(some(r));
            case 18: return x.steps();
            case 19: return x.shifts(some(r));
            case 20: return x.shift(some(r), some(r));
            case 21: return x.note(some(r), some(r));
            default: return x.note(r.nextInt(9) == 0 ? -1 - r.nextInt(2) : 50 + r.nextInt(24), 1 + r.nextInt(16));
        }
    }
}
