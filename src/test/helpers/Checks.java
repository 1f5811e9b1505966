/** Counts the answers that are not the ones that are due. */
final class Checks {
    private int asked;
    private int wrong;

    void due(String call, long got, long want) {
        asked++;
        if (got != want) {
            wrong++;
            System.out.println(call + " answered " + got + ", due is " + want);
        }
    }

    /** Asks for every fault, told as {time, rule, a, b}, and for one more. */
    void dueFaults(String name, CanonMaker x, int[][] want) {
        due(name + ": faults()", x.faults(), want.length);
        for (int k = 0; k < want.length; k++) {
            for (int what = 0; what < 4; what++) {
                due(name + ": fault(" + k + ", " + what + ")", x.fault(k, what), want[k][what]);
            }
        }
        due(name + ": fault(" + want.length + ", 0)", x.fault(want.length, 0), -1);
    }

    void finish() {
        System.out.println(wrong == 0 ? asked + " answers are as due" : wrong + " answers are not as due");
        if (wrong != 0) {
            System.exit(1);
        }
    }
}
