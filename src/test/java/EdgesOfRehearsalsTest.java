/**
 * The sentences on rehearsals that name an edge, one test each: promises 17 to 19 and the terms that they use.
 * The sentence stands above its test.
 */
final class EdgesOfRehearsalsTest {
    private static final int[] NO_PIECES = {-1, 6, 7, 32, Integer.MIN_VALUE, Integer.MAX_VALUE};
    private static final int[] NO_CHORDS = {-1, 16, 17, Integer.MIN_VALUE, Integer.MAX_VALUE, 1 << 30, -1 << 30, (1 << 30) + 1};
    private static final int[] NO_TIMES = {0, 31, -1, 32, Integer.MIN_VALUE, Integer.MAX_VALUE};

    private EdgesOfRehearsalsTest() {
    }

    public static void main(String[] args) {
        pieceToRehearse();
        timesToRehearse();
        rehearseRefusesThePieceFirst();
        oneAfterTheOther();
        greaterBy4();
        severalWeakest();
        sumOfAllChords();
        pieceAndChordOfAWeakness();
        practice0AtFirst();
        fiveForEachFault();
        atLeast0();
        practiceBeyondTheWeakness();
        eachPieceItsOwnPractice();
        pieceOfAWeakestChord();
        weakestOfSeveralIsTheFirst();
        weakestOfAllAt0();
        Check.end("EdgesOfRehearsalsTest");
    }

    private static ChoirPlanner withPieces(int pieces, int chords) {
        ChoirPlanner x = new ChoirPlanner();
        for (int piece = 0; piece < pieces; piece++) {
            for (int chord = 0; chord < chords; chord++) {
                x.chord(40, 30, 20, 10);
            }
            x.addPiece(10);
        }
        return x;
    }

    /** A piece whose highest voice leaps to each chord marked by a 1. */
    private static ChoirPlanner withLeaps(int... leaps) {
        ChoirPlanner x = new ChoirPlanner();
        int tone = 40;
        for (int leap : leaps) {
            tone = leap == 0 ? tone : tone == 40 ? 50 : 40;
            x.chord(tone, 30, 20, 10);
        }
        x.addPiece(10);
        return x;
    }

    private static void weaknesses(ChoirPlanner x, int piece, int... due) {
        for (int chord = 0; chord < due.length; chord++) {
            Check.equal("weakness of chord " + chord, x.weakness(piece, chord), due[chord]);
        }
    }

    /** rehearse throws IndexOutOfBoundsException "if there is no such piece". */
    private static void pieceToRehearse() {
        for (int count = 1; count <= 6; count++) {
            ChoirPlanner x = withPieces(count, 1);
            int next = count;
            Check.indexRefused("one beyond " + count, () -> x.rehearse(next, 1));
            for (int piece : NO_PIECES) {
                Check.indexRefused("piece " + piece, () -> x.rehearse(piece, 1));
            }
            for (int piece = 0; piece < count; piece++) {
                Check.equal("nothing was rehearsed", x.weakness(piece, 0), 10);
            }
            Check.equal("the last of " + count, x.rehearse(count - 1, 1), 6);
        }
    }

    /** rehearse, "times: 1 to 30". */
    private static void timesToRehearse() {
        ChoirPlanner x = withPieces(2, 16);
        for (int times : NO_TIMES) {
            Check.argumentRefused(times + " times", () -> x.rehearse(0, times));
        }
        Check.equal("1 time", x.rehearse(0, 1), 156);
        Check.equal("30 times", x.rehearse(1, 30), 160 - 120);
    }

    /** rehearse throws IndexOutOfBoundsException ahead of IllegalArgumentException. */
    private static void rehearseRefusesThePieceFirst() {
        ChoirPlanner x = withPieces(1, 1);
        Check.indexRefused("both wrong", () -> x.rehearse(1, 0));
        Check.indexRefused("both wrong", () -> x.rehearse(-1, 31));
        Check.indexRefused("the piece alone", () -> x.rehearse(1, 30));
        Check.argumentRefused("the times alone", () -> x.rehearse(0, 31));
    }

    /** "A rehearsal does as many times as told, one after the other, this": 30 times at once are 30 times one. */
    private static void oneAfterTheOther() {
        for (int times = 1; times <= 30; times++) {
            ChoirPlanner atOnce = withLeaps(0, 1, 0, 1, 1, 0);
            ChoirPlanner oneByOne = withLeaps(0, 1, 0, 1, 1, 0);
            int sum = 0;
            for (int time = 0; time < times; time++) {
                sum = oneByOne.rehearse(0, 1);
            }
            Check.equal(times + " times", atOnce.rehearse(0, times), sum);
            for (int chord = 0; chord < 6; chord++) {
                Check.equal("weakness", atOnce.weakness(0, chord), oneByOne.weakness(0, chord));
            }
        }
    }

    /** "the practice of the weakest chord ... becomes greater by 4". */
    private static void greaterBy4() {
        ChoirPlanner x = withLeaps(0, 1, 0);
        weaknesses(x, 0, 10, 15, 10);
        x.rehearse(0, 1);
        weaknesses(x, 0, 10, 11, 10);
        x.rehearse(0, 1);
        weaknesses(x, 0, 10, 7, 10);
        x.rehearse(0, 1);
        weaknesses(x, 0, 6, 7, 10);
        x.rehearse(0, 1);
        weaknesses(x, 0, 6, 7, 6);
    }

    /** "the weakest chord, of several the first one": each of 16 in its turn. */
    private static void severalWeakest() {
        ChoirPlanner x = withPieces(1, 16);
        for (int turn = 0; turn < 3; turn++) {
            int before = Math.max(0, 10 - 4 * turn);
            int after = Math.max(0, 6 - 4 * turn);
            for (int chord = 0; chord < 16; chord++) {
                Check.equal("the weakest", x.weakest(0), chord);
                x.rehearse(0, 1);
                Check.equal("rehearsed", x.weakness(0, chord), after);
                if (chord < 15) {
                    Check.equal("not yet", x.weakness(0, chord + 1), before);
                }
            }
        }
    }

    /** rehearse returns "the sum of the weakness of all its chords then", of one and of sixteen. */
    private static void sumOfAllChords() {
        ChoirPlanner one = withPieces(1, 1);
        int[] sums = {6, 2, 0, 0};
        for (int sum : sums) {
            Check.equal("one chord", one.rehearse(0, 1), sum);
        }
        for (int chords = 2; chords <= 16; chords++) {
            Check.equal(chords + " chords", withPieces(1, chords).rehearse(0, 2), 10 * chords - 8);
        }
        Check.equal("the last chord's faults", withLeaps(0, 0, 1).rehearse(0, 1), 31);
        ChoirPlanner sixteen = withPieces(1, 16);
        Check.equal("30 of 48 times", sixteen.rehearse(0, 30), 40);
        Check.equal("48 times but one", sixteen.rehearse(0, 17), 2);
        Check.equal("48 times", sixteen.rehearse(0, 1), 0);
        Check.equal("and once more", sixteen.rehearse(0, 1), 0);
    }

    /** weakness throws IndexOutOfBoundsException "if there is no such piece or chord". */
    private static void pieceAndChordOfAWeakness() {
        for (int count = 1; count <= 16; count++) {
            ChoirPlanner x = withPieces(1, count);
            int next = count;
            Check.equal("the last of " + count, x.weakness(0, count - 1), 10);
            Check.indexRefused("one beyond " + count, () -> x.weakness(0, next));
        }
        for (int count = 1; count <= 6; count++) {
            ChoirPlanner x = withPieces(count, 16);
            int next = count;
            Check.equal("the last of " + count, x.weakness(count - 1, 15), 10);
            Check.indexRefused("one beyond " + count, () -> x.weakness(next, 0));
            for (int piece : NO_PIECES) {
                Check.indexRefused("piece " + piece, () -> x.weakness(piece, 0));
            }
            for (int chord : NO_CHORDS) {
                Check.indexRefused("chord " + chord, () -> x.weakness(next - 1, chord));
            }
        }
    }

    /** "Each chord of a piece has a practice, 0 at first. The weakness of a chord is 10". */
    private static void practice0AtFirst() {
        ChoirPlanner x = withPieces(1, 16);
        for (int chord = 0; chord < 16; chord++) {
            Check.equal("without faults", x.weakness(0, chord), 10);
        }
        x.rehearse(0, 30);
        for (int chord = 0; chord < 16; chord++) {
            x.chord(40, 30, 20, 10);
        }
        x.addPiece(10);
        for (int chord = 0; chord < 16; chord++) {
            Check.equal("of the next piece", x.weakness(1, chord), 10);
        }
    }

    /** "and 5 for each fault of the move that leads to it": 0 to 22 faults, none for the first chord. */
    private static void fiveForEachFault() {
        ChoirPlanner x = new ChoirPlanner();
        x.chord(48, 36, 24, 12);
        x.chord(40, 28, 16, 4);
        x.chord(41, 29, 17, 5);
        x.chord(41, 29, 17, 5);
        x.chord(41, 29, 17, 13);
        x.addPiece(10);
        weaknesses(x, 0, 10, 10 + 5 * 22, 10 + 5 * 18, 10, 15);
        x.setTone(0, 0, 0, 60);
        weaknesses(x, 0, 10, 10 + 5 * 13, 10 + 5 * 18, 10, 15);
    }

    /** "less its practice, but at least 0": down to 0 just so, and not below. */
    private static void atLeast0() {
        ChoirPlanner x = new ChoirPlanner();
        x.chord(40, 30, 20, 10);
        x.chord(48, 38, 20, 10);
        x.addPiece(10);
        weaknesses(x, 0, 10, 20);
        int[] first = {10, 10, 10, 6, 6, 2, 2, 0, 0};
        int[] second = {16, 12, 8, 8, 4, 4, 0, 0, 0};
        for (int time = 0; time < first.length; time++) {
            Check.equal("the sum", x.rehearse(0, 1), first[time] + second[time]);
            weaknesses(x, 0, first[time], second[time]);
        }
    }

    /** The practice is 4 for each time, also where the weakness had less than 4 left: it shows when faults come. */
    private static void practiceBeyondTheWeakness() {
        ChoirPlanner x = withPieces(1, 2);
        Check.equal("three times each", x.rehearse(0, 6), 0);
        x.setTone(0, 1, 0, 60);
        weaknesses(x, 0, 0, 3);
        Check.equal("the second is the weakest then", x.weakest(0), 1);
        Check.equal("a fourth time for the second", x.rehearse(0, 1), 0);
        x.setTone(0, 1, 3, 0);
        weaknesses(x, 0, 0, 4);
    }

    /** "Each chord of a piece has a practice": of its piece alone, and of its place there. */
    private static void eachPieceItsOwnPractice() {
        ChoirPlanner x = withPieces(6, 2);
        int[] firsts = {6, 6, 2, 2, 0, 0};
        int[] seconds = {10, 6, 6, 2, 2, 0};
        for (int piece = 0; piece < 6; piece++) {
            Check.equal("piece " + piece, x.rehearse(piece, piece + 1), firsts[piece] + seconds[piece]);
        }
        for (int piece = 0; piece < 6; piece++) {
            weaknesses(x, piece, firsts[piece], seconds[piece]);
        }
    }

    /** weakest throws IndexOutOfBoundsException "if there is no such piece". */
    private static void pieceOfAWeakestChord() {
        for (int count = 1; count <= 6; count++) {
            ChoirPlanner x = withPieces(count, 1);
            int next = count;
            Check.equal("the last of " + count, x.weakest(count - 1), 0);
            Check.indexRefused("one beyond " + count, () -> x.weakest(next));
            for (int piece : NO_PIECES) {
                Check.indexRefused("piece " + piece, () -> x.weakest(piece));
            }
        }
    }

    /** weakest: "of several the first one"; the last chord is one as any other. */
    private static void weakestOfSeveralIsTheFirst() {
        Check.equal("one chord", withLeaps(0).weakest(0), 0);
        Check.equal("all alike", withLeaps(0, 0, 0, 0).weakest(0), 0);
        Check.equal("two of four", withLeaps(0, 0, 1, 1).weakest(0), 2);
        Check.equal("the second and the last", withLeaps(0, 1, 0, 1).weakest(0), 1);
        Check.equal("the last alone", withLeaps(0, 0, 0, 1).weakest(0), 3);
        Check.equal("the sixteenth", withLeaps(0, 0, 0, 0, 0, 0, 0, 0, 0, 0, 0, 0, 0, 0, 0, 1).weakest(0), 15);
        ChoirPlanner x = withLeaps(0, 1, 1);
        x.rehearse(0, 1);
        Check.equal("the second of them then", x.weakest(0), 2);
        x.rehearse(0, 1);
        Check.equal("the first of them again", x.weakest(0), 1);
    }

    /** Where all are at 0, "of several the first one" is the chord 0. */
    private static void weakestOfAllAt0() {
        ChoirPlanner x = withPieces(1, 3);
        Check.equal("nine times", x.rehearse(0, 9), 0);
        Check.equal("the first", x.weakest(0), 0);
        Check.equal("30 times more", x.rehearse(0, 30), 0);
        Check.equal("still the first", x.weakest(0), 0);
        x.setTone(0, 1, 0, 60);
        Check.equal("the others have not practised on", x.weakness(0, 1), 3);
        Check.equal("nor the last", x.weakness(0, 2), 3);
    }
}
