/** Promises 17 to 19: rehearse, weakness, weakest. */
final class RehearsalsTest {
    private static final int[] WRONG_PIECES = {-1, 2, 6, Integer.MIN_VALUE, Integer.MAX_VALUE};

    private RehearsalsTest() {
    }

    public static void main(String[] args) {
        weakness();
        weakest();
        rehearse();
        rehearseTakesTurns();
        practiceGoesBeyondWeakness();
        practiceStaysWithTheChord();
        refuses();
        Check.end("RehearsalsTest");
    }

    /** Two pieces: one of four chords with 0, 3, 1 and 0 faults to them, one of a single chord. */
    private static ChoirPlanner choir() {
        ChoirPlanner x = new ChoirPlanner();
        x.chord(40, 33, 20, 10);
        x.chord(41, 34, 20, 10);
        x.chord(49, 34, 20, 10);
        x.chord(49, 34, 20, 10);
        x.addPiece(100);
        x.chord(40, 30, 20, 10);
        x.addPiece(100);
        return x;
    }

    private static void weaknesses(ChoirPlanner x, int piece, int... due) {
        for (int chord = 0; chord < due.length; chord++) {
            Check.equal("weakness of chord " + chord, x.weakness(piece, chord), due[chord]);
        }
    }

    private static void weakness() {
        ChoirPlanner x = choir();
        weaknesses(x, 0, 10, 25, 15, 10);
        weaknesses(x, 1, 10);
        x.setTone(0, 2, 0, 41);
        weaknesses(x, 0, 10, 25, 10, 15);
    }

    private static void weakest() {
        ChoirPlanner x = choir();
        Check.equal("the one with most faults", x.weakest(0), 1);
        Check.equal("the only one", x.weakest(1), 0);
        x.setTone(0, 1, 0, 40);
        weaknesses(x, 0, 10, 10, 15, 10);
        Check.equal("after a tone is set", x.weakest(0), 2);
        x.setTone(0, 2, 0, 40);
        weaknesses(x, 0, 10, 10, 10, 15);
        Check.equal("the last one", x.weakest(0), 3);
        x.setTone(0, 3, 0, 40);
        Check.equal("the first one of several", x.weakest(0), 0);
    }

    private static void rehearse() {
        ChoirPlanner x = choir();
        Check.equal("once", x.rehearse(0, 1), 56);
        weaknesses(x, 0, 10, 21, 15, 10);
        Check.equal("twice more", x.rehearse(0, 2), 48);
        weaknesses(x, 0, 10, 13, 15, 10);
        weaknesses(x, 1, 10);
        Check.equal("30 times", x.rehearse(0, 30), 0);
        weaknesses(x, 0, 0, 0, 0, 0);
        Check.equal("the other piece", x.rehearse(1, 1), 6);
        Check.equal("and again", x.rehearse(1, 1), 2);
        Check.equal("not below 0", x.rehearse(1, 1), 0);
    }

    private static void rehearseTakesTurns() {
        ChoirPlanner x = choir();
        Check.equal("five times", x.rehearse(0, 5), 40);
        weaknesses(x, 0, 10, 9, 11, 10);
        x.rehearse(0, 1);
        weaknesses(x, 0, 10, 9, 7, 10);
        x.rehearse(0, 1);
        weaknesses(x, 0, 6, 9, 7, 10);
        Check.equal("the last one then", x.weakest(0), 3);
        x.rehearse(0, 4);
        weaknesses(x, 0, 2, 5, 3, 6);
    }

    /** Where all are at 0 the first chord goes on practising, which shows when faults come. */
    private static void practiceGoesBeyondWeakness() {
        ChoirPlanner x = new ChoirPlanner();
        x.chord(40, 30, 20, 10);
        x.chord(40, 30, 20, 10);
        x.addPiece(100);
        x.rehearse(0, 6);
        weaknesses(x, 0, 0, 0);
        Check.equal("the first of several at 0", x.weakest(0), 0);
        x.rehearse(0, 30);
        x.setTone(0, 1, 0, 60);
        weaknesses(x, 0, 0, 3);
        Check.equal("the second has 12 of practice", x.rehearse(0, 1), 0);
        x.setTone(0, 1, 3, 0);
        weaknesses(x, 0, 0, 4);
    }

    private static void practiceStaysWithTheChord() {
        ChoirPlanner x = choir();
        x.rehearse(0, 3);
        x.setTone(0, 1, 0, 42);
        weaknesses(x, 0, 10, 0, 10, 10);
        x.setTone(0, 1, 0, 41);
        weaknesses(x, 0, 10, 13, 15, 10);
        x.leastFaults(0, 1, 0);
        weaknesses(x, 0, 10, 13, 15, 10);
    }

    private static void refuses() {
        ChoirPlanner x = choir();
        for (int piece : WRONG_PIECES) {
            Check.indexRefused("rehearse of piece " + piece, () -> x.rehearse(piece, 0));
            Check.indexRefused("weakness of piece " + piece, () -> x.weakness(piece, 0));
            Check.indexRefused("weakest of piece " + piece, () -> x.weakest(piece));
        }
        int[] wrongChords = {-1, 4, 16, Integer.MIN_VALUE, Integer.MAX_VALUE};
        for (int chord : wrongChords) {
            Check.indexRefused("weakness of chord " + chord, () -> x.weakness(0, chord));
        }
        Check.indexRefused("weakness of the other piece's chord", () -> x.weakness(1, 1));
        int[] wrongTimes = {0, 31, -1, Integer.MIN_VALUE, Integer.MAX_VALUE};
        for (int times : wrongTimes) {
            Check.argumentRefused("rehearse " + times + " times", () -> x.rehearse(0, times));
        }
        weaknesses(x, 0, 10, 25, 15, 10);
    }
}
