/** Promises 6 to 11: chord, addPiece, setTone, faultsAt, faults, leastFaults. */
final class PiecesTest {
    private static final int[] WRONG_VOICES = {-1, 4, Integer.MIN_VALUE, Integer.MAX_VALUE};
    private static final int[] WRONG_TONES = {-1, 61, Integer.MIN_VALUE, Integer.MAX_VALUE};

    private PiecesTest() {
    }

    public static void main(String[] args) {
        chord();
        chordRefuses();
        addPiece();
        addPieceRefuses();
        addPieceRefusesTheSeventh();
        setTone();
        setToneRefuses();
        leaps();
        parallels();
        parallelsOfEachPair();
        noParallels();
        faultsOfPieces();
        faultsRefuse();
        leastFaults();
        leastFaultsStaysBetweenTheOtherVoices();
        leastFaultsAtTheEndsOfTones();
        sixteenChords();
        leastFaultsRefuses();
        Check.end("PiecesTest");
    }

    /** A choir with one piece, whose chords stand in the row one after the other. */
    private static ChoirPlanner withPiece(int... tones) {
        ChoirPlanner x = new ChoirPlanner();
        for (int i = 0; i < tones.length; i += 4) {
            x.chord(tones[i], tones[i + 1], tones[i + 2], tones[i + 3]);
        }
        x.addPiece(100);
        return x;
    }

    private static void chord() {
        ChoirPlanner x = new ChoirPlanner();
        Check.equal("first chord", x.chord(60, 60, 60, 60), 1);
        Check.equal("second chord", x.chord(0, 0, 0, 0), 2);
        for (int count = 3; count <= 16; count++) {
            Check.equal("chord", x.chord(60, 40, 20, 0), count);
        }
        Check.stateRefused("the seventeenth", () -> x.chord(60, 40, 20, 0));
        Check.argumentRefused("the seventeenth with a wrong tone", () -> x.chord(61, 40, 20, 0));
        Check.equal("a piece of 16 chords", x.addPiece(1), 0);
        Check.equal("the last chord", x.setTone(0, 15, 1, 40), 40);
        Check.equal("the draft is empty then", x.chord(60, 40, 20, 0), 1);
    }

    private static void chordRefuses() {
        ChoirPlanner x = new ChoirPlanner();
        for (int tone : WRONG_TONES) {
            Check.argumentRefused("first " + tone, () -> x.chord(tone, 0, 0, 0));
            Check.argumentRefused("second " + tone, () -> x.chord(60, tone, 0, 0));
            Check.argumentRefused("third " + tone, () -> x.chord(60, 60, tone, 0));
            Check.argumentRefused("fourth " + tone, () -> x.chord(60, 60, 60, tone));
        }
        Check.argumentRefused("second above first", () -> x.chord(30, 31, 20, 10));
        Check.argumentRefused("third above second", () -> x.chord(40, 30, 31, 10));
        Check.argumentRefused("fourth above third", () -> x.chord(40, 30, 20, 21));
        Check.stateRefused("nothing was added", () -> x.addPiece(10));
        Check.equal("a right one counts from 1", x.chord(30, 30, 20, 20), 1);
    }

    private static void addPiece() {
        ChoirPlanner x = new ChoirPlanner();
        x.chord(40, 30, 20, 10);
        x.chord(41, 31, 21, 11);
        Check.equal("first piece", x.addPiece(1), 0);
        x.chord(50, 40, 30, 20);
        Check.equal("second piece", x.addPiece(3600), 1);
        Check.equal("chords of the first", x.setTone(0, 1, 0, 41), 41);
        Check.equal("chords of the second", x.setTone(1, 0, 3, 20), 20);
        Check.indexRefused("the second has one chord", () -> x.faultsAt(1, 1));
        Check.stateRefused("the draft is empty then", () -> x.addPiece(10));
    }

    private static void addPieceRefuses() {
        ChoirPlanner x = new ChoirPlanner();
        int[] wrongLengths = {0, 3601, -1, Integer.MIN_VALUE, Integer.MAX_VALUE};
        for (int seconds : wrongLengths) {
            Check.argumentRefused("length comes before the draft: " + seconds, () -> x.addPiece(seconds));
        }
        Check.stateRefused("an empty draft", () -> x.addPiece(1));
        x.chord(40, 30, 20, 10);
        for (int seconds : wrongLengths) {
            Check.argumentRefused("length " + seconds, () -> x.addPiece(seconds));
        }
        Check.equal("the draft is kept", x.chord(40, 30, 20, 10), 2);
        Check.equal("none was added", x.addPiece(1), 0);
    }

    private static void addPieceRefusesTheSeventh() {
        ChoirPlanner x = new ChoirPlanner();
        for (int number = 0; number < 6; number++) {
            x.chord(40 + number, 30, 20, 10);
            Check.equal("number", x.addPiece(10), number);
        }
        Check.equal("a draft is still made", x.chord(40, 30, 20, 10), 1);
        Check.stateRefused("the seventh", () -> x.addPiece(10));
        Check.argumentRefused("the seventh of a wrong length", () -> x.addPiece(0));
        Check.equal("its draft is kept", x.chord(40, 30, 20, 10), 2);
        Check.indexRefused("the seventh is not there", () -> x.faults(6));
        for (int number = 0; number < 6; number++) {
            Check.equal("each has its own tones", x.setTone(number, 0, 0, 60), 40 + number);
        }
    }

    private static void setTone() {
        ChoirPlanner x = withPiece(40, 30, 20, 10, 45, 35, 25, 15);
        Check.equal("tone before", x.setTone(0, 1, 2, 26), 25);
        Check.equal("tone set", x.setTone(0, 1, 2, 35), 26);
        Check.equal("as high as the next higher one", x.setTone(0, 1, 2, 15), 35);
        Check.equal("as low as the next lower one", x.setTone(0, 1, 2, 25), 15);
        Check.equal("the highest tone", x.setTone(0, 0, 0, 60), 40);
        Check.equal("the lowest tone", x.setTone(0, 0, 3, 0), 10);
        Check.equal("other chords stay", x.setTone(0, 1, 0, 45), 45);
        Check.equal("other voices stay", x.setTone(0, 0, 1, 30), 30);
    }

    private static void setToneRefuses() {
        ChoirPlanner x = withPiece(40, 30, 20, 10);
        Check.indexRefused("piece -1", () -> x.setTone(-1, 0, 9, 99));
        Check.indexRefused("piece 1", () -> x.setTone(1, 0, 9, 99));
        Check.indexRefused("chord -1", () -> x.setTone(0, -1, 9, 99));
        Check.indexRefused("chord 1", () -> x.setTone(0, 1, 9, 99));
        Check.indexRefused("chord 16", () -> x.setTone(0, 16, 0, 40));
        for (int voice : WRONG_VOICES) {
            Check.argumentRefused("voice " + voice, () -> x.setTone(0, 0, voice, 20));
        }
        for (int tone : WRONG_TONES) {
            for (int voice = 0; voice <= 3; voice++) {
                int each = voice;
                Check.argumentRefused("tone " + tone, () -> x.setTone(0, 0, each, tone));
            }
        }
        Check.stateRefused("0 below 1", () -> x.setTone(0, 0, 0, 29));
        Check.stateRefused("1 above 0", () -> x.setTone(0, 0, 1, 41));
        Check.stateRefused("1 below 2", () -> x.setTone(0, 0, 1, 19));
        Check.stateRefused("2 above 1", () -> x.setTone(0, 0, 2, 31));
        Check.stateRefused("2 below 3", () -> x.setTone(0, 0, 2, 9));
        Check.stateRefused("3 above 2", () -> x.setTone(0, 0, 3, 21));
        for (int voice = 0; voice <= 3; voice++) {
            int tone = 40 - 10 * voice;
            Check.equal("a refused call changes nothing", x.setTone(0, 0, voice, tone), tone);
        }
    }

    private static void leaps() {
        ChoirPlanner x = withPiece(
                40, 30, 20, 10,
                47, 30, 20, 3,
                55, 30, 20, 11,
                47, 30, 20, 11,
                55, 38, 19, 3);
        Check.equal("by 7 up and down", x.faultsAt(0, 1), 0);
        Check.equal("two by 8 up", x.faultsAt(0, 2), 2);
        Check.equal("one by 8 down", x.faultsAt(0, 3), 1);
        Check.equal("three leaps", x.faultsAt(0, 4), 3);
    }

    private static void parallels() {
        int[] told = {0, 7, 12, 19, 24, 31, 36, 43, 48, 55};
        for (int interval = 0; interval <= 59; interval++) {
            boolean isTold = false;
            for (int each : told) {
                isTold |= each == interval;
            }
            ChoirPlanner x = withPiece(interval, 0, 0, 0, interval + 1, 1, 0, 0);
            Check.equal("interval " + interval + " up", x.faultsAt(0, 1), isTold ? 3 : 0);
            ChoirPlanner y = withPiece(60, 60, 60, 60 - interval, 60, 60, 59, 59 - interval);
            Check.equal("interval " + interval + " down", y.faultsAt(0, 1), isTold ? 3 : 0);
        }
    }

    private static void parallelsOfEachPair() {
        int[] apart = {48, 35, 21, 6};
        for (int upper = 0; upper < 4; upper++) {
            for (int lower = upper + 1; lower < 4; lower++) {
                int[] tones = new int[8];
                for (int voice = 0; voice < 4; voice++) {
                    tones[voice] = apart[voice];
                }
                int octaves = (apart[upper] - apart[lower]) / 12 * 12;
                tones[upper] = tones[lower] + octaves;
                for (int voice = 0; voice < 4; voice++) {
                    tones[4 + voice] = tones[voice] + (voice == upper || voice == lower ? 1 : 0);
                }
                Check.equal("voices " + upper + " and " + lower, withPiece(tones).faultsAt(0, 1), 3);
            }
        }
        Check.equal("all pairs", withPiece(20, 20, 20, 20, 21, 21, 21, 21).faultsAt(0, 1), 18);
        Check.equal("all pairs and leaps", withPiece(20, 20, 20, 20, 28, 28, 28, 28).faultsAt(0, 1), 22);
        Check.equal("all pairs down by leaps", withPiece(60, 48, 36, 24, 36, 24, 12, 0).faultsAt(0, 1), 22);
    }

    private static void noParallels() {
        Check.equal("nobody moves", withPiece(24, 12, 12, 0, 24, 12, 12, 0).faultsAt(0, 1), 0);
        Check.equal("one moves", withPiece(32, 20, 9, 0, 33, 20, 9, 0).faultsAt(0, 1), 0);
        Check.equal("contrary, the same interval left", withPiece(32, 20, 3, 0, 38, 14, 3, 0).faultsAt(0, 1), 0);
        Check.equal("octave to double octave", withPiece(32, 30, 20, 8, 32, 29, 20, 5).faultsAt(0, 1), 0);
        Check.equal("whole intervals differ: 12 and 24", withPiece(37, 25, 24, 23, 50, 26, 24, 23).faultsAt(0, 1), 1);
        Check.equal("whole intervals differ: 0 and 12", withPiece(25, 25, 20, 19, 42, 30, 20, 19).faultsAt(0, 1), 1);
        Check.equal("whole intervals differ: 7 and 19", withPiece(32, 25, 20, 19, 45, 26, 20, 19).faultsAt(0, 1), 1);
        Check.equal("fifth to sixth", withPiece(32, 25, 20, 19, 34, 26, 20, 19).faultsAt(0, 1), 0);
    }

    private static void faultsOfPieces() {
        ChoirPlanner x = withPiece(
                20, 20, 20, 20,
                22, 22, 22, 22,
                22, 22, 22, 22,
                35, 10, 10, 10);
        Check.equal("no move to the first chord", x.faultsAt(0, 0), 0);
        Check.equal("six parallels", x.faultsAt(0, 1), 18);
        Check.equal("no motion", x.faultsAt(0, 2), 0);
        Check.equal("three parallels, four leaps", x.faultsAt(0, 3), 13);
        Check.equal("the sum", x.faults(0), 31);
        x.setTone(0, 1, 0, 23);
        Check.equal("a set tone changes the move to its chord", x.faultsAt(0, 1), 9);
        Check.equal("and the one from it", x.faultsAt(0, 2), 0);
        x.setTone(0, 1, 0, 60);
        Check.equal("leap to it", x.faultsAt(0, 1), 10);
        Check.equal("leap from it", x.faultsAt(0, 2), 1);
        Check.equal("the new sum", x.faults(0), 24);
        x.setTone(0, 0, 0, 60);
        Check.equal("after the first tone is set", x.faultsAt(0, 1), 9);
        Check.equal("the first stays without", x.faultsAt(0, 0), 0);
        x.setTone(0, 3, 0, 29);
        Check.equal("after the last tone is set", x.faultsAt(0, 3), 12);
        Check.equal("a single chord", withPiece(40, 30, 20, 10).faults(0), 0);
    }

    private static void faultsRefuse() {
        ChoirPlanner x = withPiece(40, 30, 20, 10, 41, 31, 21, 11);
        int[] wrongPieces = {-1, 1, 6, Integer.MIN_VALUE, Integer.MAX_VALUE};
        for (int piece : wrongPieces) {
            Check.indexRefused("faultsAt of piece " + piece, () -> x.faultsAt(piece, 0));
            Check.indexRefused("faults of piece " + piece, () -> x.faults(piece));
        }
        int[] wrongChords = {-1, 2, 16, Integer.MIN_VALUE, Integer.MAX_VALUE};
        for (int chord : wrongChords) {
            Check.indexRefused("faultsAt of chord " + chord, () -> x.faultsAt(0, chord));
        }
        x.chord(50, 40, 30, 20);
        Check.indexRefused("the draft is no piece", () -> x.faults(1));
    }

    private static void leastFaults() {
        ChoirPlanner x = withPiece(
                40, 33, 28, 21,
                42, 35, 28, 21,
                42, 35, 30, 23,
                50, 35, 30, 15,
                45, 35, 23, 11,
                47, 37, 25, 13);
        Check.equal("faults at first", x.faults(0), 17);
        Check.equal("another tone is better", x.leastFaults(0, 1, 1), 14);
        Check.equal("a leap taken away", x.leastFaults(0, 3, 0), 16);
        Check.equal("nothing changes", x.faults(0), 17);
        Check.equal("no tone changes", x.setTone(0, 1, 1, 35), 35);
        Check.equal("nor in the third", x.setTone(0, 3, 0, 50), 50);
        ChoirPlanner y = withPiece(40, 30, 20, 10, 41, 30, 19, 10, 42, 30, 20, 10);
        Check.equal("none better than that which it has", y.leastFaults(0, 1, 1), 0);
        ChoirPlanner z = withPiece(60, 20, 10, 0, 60, 21, 11, 0, 60, 20, 10, 0);
        Check.equal("moves elsewhere count", z.leastFaults(0, 1, 0), z.faults(0));
    }

    /** With a middle voice of which the tone that frees of faults lies just beyond or just at another voice. */
    private static void leastFaultsStaysBetweenTheOtherVoices() {
        ChoirPlanner x = withPiece(60, 50, 20, 0, 60, 40, 40, 0, 60, 50, 20, 0);
        Check.equal("leaps of both middle voices", x.faults(0), 4);
        Check.equal("up to the voice above alone", x.leastFaults(0, 1, 2), 2);
        Check.equal("up from the voice below", x.leastFaults(0, 1, 1), 2);
        ChoirPlanner y = withPiece(20, 20, 20, 20, 40, 36, 35, 10, 20, 20, 20, 20);
        Check.equal("eight leaps", y.faults(0), 8);
        Check.equal("the lowest voice up to 20", y.leastFaults(0, 1, 3), 6);
        Check.equal("the highest not below the next", y.leastFaults(0, 1, 0), 8);
        Check.equal("the third down to 20", y.leastFaults(0, 1, 2), 6);
        ChoirPlanner z = withPiece(60, 60, 60, 60, 52, 52, 52, 52, 60, 60, 60, 60);
        Check.equal("parallels and leaps", z.faults(0), 44);
        Check.equal("the highest up to 60", z.leastFaults(0, 1, 0), 24);
        Check.equal("the lowest down to another leap", z.leastFaults(0, 1, 3), 26);
        ChoirPlanner bottom = withPiece(9, 9, 9, 0, 9, 9, 9, 9, 9, 9, 9, 0);
        Check.equal("the lowest down to 0", bottom.leastFaults(0, 1, 3), 0);
    }

    private static void leastFaultsAtTheEndsOfTones() {
        ChoirPlanner up = withPiece(60, 47, 0, 0, 40, 30, 0, 0, 60, 47, 0, 0);
        Check.equal("four leaps", up.faults(0), 4);
        Check.equal("the tone of the next higher voice alone", up.leastFaults(0, 1, 1), 2);
        ChoirPlanner down = withPiece(60, 13, 0, 0, 60, 40, 20, 0, 60, 13, 0, 0);
        Check.equal("four other leaps", down.faults(0), 4);
        Check.equal("the tone of the next lower voice alone", down.leastFaults(0, 1, 1), 2);
        ChoirPlanner low = withPiece(1, 1, 1, 1, 0, 0, 0, 0, 1, 1, 1, 1);
        Check.equal("no tone below 0", low.leastFaults(0, 1, 3), 36);
        Check.equal("but above", low.leastFaults(0, 1, 0), 18);
        ChoirPlanner high = withPiece(59, 59, 59, 59, 60, 60, 60, 60, 59, 59, 59, 59);
        Check.equal("no tone above 60", high.leastFaults(0, 1, 0), 36);
        Check.equal("but below", high.leastFaults(0, 1, 3), 18);
        ChoirPlanner sixty = withPiece(60, 52, 0, 0, 60, 60, 0, 0, 60, 52, 0, 0);
        Check.equal("the highest stays at 60", sixty.leastFaults(0, 1, 0), 2);
        Check.equal("the second goes down", sixty.leastFaults(0, 1, 1), 0);
    }

    private static void sixteenChords() {
        ChoirPlanner x = new ChoirPlanner();
        for (int chord = 0; chord < 16; chord++) {
            x.chord(40, 30, 20, 10 * (chord % 2));
        }
        x.addPiece(100);
        Check.equal("the last move", x.faultsAt(0, 15), 1);
        Check.equal("fifteen moves", x.faults(0), 15);
        Check.equal("the last chord but one", x.leastFaults(0, 14, 3), 13);
        x.setTone(0, 15, 3, 0);
        Check.equal("without the last leap", x.faults(0), 14);
        Check.equal("weakest of sixteen", x.weakest(0), 1);
        Check.equal("rehearsed", x.rehearse(0, 30), 16 * 10 + 14 * 5 - 120);
        Check.indexRefused("the last chord", () -> x.leastFaults(0, 15, 3));
        Check.indexRefused("beyond the last chord", () -> x.leastFaults(0, 16, 3));
    }

    private static void leastFaultsRefuses() {
        ChoirPlanner x = withPiece(40, 30, 20, 10, 41, 31, 21, 11, 42, 32, 22, 12);
        Check.indexRefused("piece -1", () -> x.leastFaults(-1, 1, 9));
        Check.indexRefused("piece 1", () -> x.leastFaults(1, 1, 9));
        Check.indexRefused("chord -1", () -> x.leastFaults(0, -1, 9));
        Check.indexRefused("chord 3", () -> x.leastFaults(0, 3, 9));
        Check.indexRefused("the first chord", () -> x.leastFaults(0, 0, 9));
        Check.indexRefused("the last chord", () -> x.leastFaults(0, 2, 0));
        for (int voice : WRONG_VOICES) {
            Check.argumentRefused("voice " + voice, () -> x.leastFaults(0, 1, voice));
        }
        ChoirPlanner single = withPiece(40, 30, 20, 10);
        Check.indexRefused("a single chord", () -> single.leastFaults(0, 0, 0));
        ChoirPlanner two = withPiece(40, 30, 20, 10, 40, 30, 20, 10);
        Check.indexRefused("the first of two", () -> two.leastFaults(0, 0, 0));
        Check.indexRefused("the last of two", () -> two.leastFaults(0, 1, 0));
    }
}
