/**
 * The sentences on pieces that name an edge, one test each: promises 6 to 11 and the terms that they use.
 * The sentence stands above its test.
 */
final class EdgesOfPiecesTest {
    private static final int[] NO_VOICES = {-1, 4, 5, Integer.MIN_VALUE, Integer.MAX_VALUE};
    private static final int[] NO_TONES = {-1, 61, 100, Integer.MIN_VALUE, Integer.MAX_VALUE};
    /** Four times the last three is 0 again in an int, or 4. */
    private static final int[] NO_CHORDS = {-1, 16, 17, Integer.MIN_VALUE, Integer.MAX_VALUE, 1 << 30, -1 << 30, (1 << 30) + 1};
    private static final int[] NO_PIECES = {-1, 6, 7, 32, Integer.MIN_VALUE, Integer.MAX_VALUE};

    private EdgesOfPiecesTest() {
    }

    public static void main(String[] args) {
        tonesOfAChord();
        noToneAboveTheNextHigherVoice();
        chordsOfTheDraft();
        sixteenChordsAtMost();
        draftAfterAPiece();
        lengthOfAPiece();
        numbersOfPieces();
        pieceOfAnEmptyDraft();
        sixPiecesAtMost();
        addPieceRefusesTheLengthFirst();
        pieceToSet();
        chordToSet();
        voiceToSet();
        toneToSet();
        setToneUpToTheNextHigherVoice();
        setToneDownToTheNextLowerVoice();
        toneBefore();
        setToneRefusesInOrder();
        pieceAndChordOfAMove();
        noMoveToTheFirstChord();
        leapsByMoreThanSeven();
        intervalsThatAreTold();
        wholeIntervalTheSame();
        bothMove();
        sameDirection();
        threeForEachPair();
        faultsOfNoPiece();
        faultsOfAllMoves();
        pieceOfLeastFaults();
        neitherTheFirstNorTheLastChord();
        voiceOfLeastFaults();
        leastFaultsRefusesTheChordFirst();
        leastFaultsUpToTheNextHigherVoice();
        leastFaultsDownToTheNextLowerVoice();
        leastFaultsWithinTheTones();
        leastFaultsWithTheToneThatItHas();
        leastFaultsChangesNothing();
        Check.end("EdgesOfPiecesTest");
    }

    /** A choir with one piece, whose chords stand in the row one after the other. */
    private static ChoirPlanner withPiece(int... tones) {
        ChoirPlanner x = new ChoirPlanner();
        addPiece(x, tones);
        return x;
    }

    private static int addPiece(ChoirPlanner x, int... tones) {
        for (int i = 0; i < tones.length; i += 4) {
            x.chord(tones[i], tones[i + 1], tones[i + 2], tones[i + 3]);
        }
        return x.addPiece(100);
    }

    private static ChoirPlanner withChords(int count) {
        ChoirPlanner x = new ChoirPlanner();
        for (int chord = 0; chord < count; chord++) {
            x.chord(40, 30, 20, 10);
        }
        x.addPiece(100);
        return x;
    }

    private static ChoirPlanner withPieces(int count) {
        ChoirPlanner x = new ChoirPlanner();
        for (int piece = 0; piece < count; piece++) {
            addPiece(x, 40, 30, 20, 10, 40, 30, 20, 10, 40, 30, 20, 10);
        }
        return x;
    }

    private static int faultsOfMove(int... tones) {
        return withPiece(tones).faultsAt(0, 1);
    }

    /** chord: "the tone of the voice 0, 0 to 60" and the like. */
    private static void tonesOfAChord() {
        ChoirPlanner x = new ChoirPlanner();
        for (int tone : NO_TONES) {
            Check.argumentRefused("first " + tone, () -> x.chord(tone, 0, 0, 0));
            Check.argumentRefused("second " + tone, () -> x.chord(60, tone, 0, 0));
            Check.argumentRefused("third " + tone, () -> x.chord(60, 60, tone, 0));
            Check.argumentRefused("fourth " + tone, () -> x.chord(60, 60, 60, tone));
            Check.argumentRefused("all " + tone, () -> x.chord(tone, tone, tone, tone));
        }
        Check.equal("all 0", x.chord(0, 0, 0, 0), 1);
        Check.equal("all 60", x.chord(60, 60, 60, 60), 2);
        Check.equal("from 60 to 0", x.chord(60, 0, 0, 0), 3);
        Check.equal("all but one 60", x.chord(60, 60, 60, 0), 4);
    }

    /** "a chord has a tone for each voice, none higher than that of the next higher voice": "second: 0 to first" and so on. */
    private static void noToneAboveTheNextHigherVoice() {
        int[] tones = {0, 1, 30, 59};
        for (int tone : tones) {
            ChoirPlanner x = new ChoirPlanner();
            Check.argumentRefused("second one above " + tone, () -> x.chord(tone, tone + 1, 0, 0));
            Check.argumentRefused("third one above " + tone, () -> x.chord(60, tone, tone + 1, 0));
            Check.argumentRefused("fourth one above " + tone, () -> x.chord(60, 60, tone, tone + 1));
            Check.equal("second the same", x.chord(tone, tone, 0, 0), 1);
            Check.equal("third the same", x.chord(60, tone, tone, 0), 2);
            Check.equal("fourth the same", x.chord(60, 60, tone, tone), 3);
        }
    }

    /** chord "returns how many chords the draft has then"; a refused one is not counted. */
    private static void chordsOfTheDraft() {
        ChoirPlanner x = new ChoirPlanner();
        for (int count = 1; count <= 16; count++) {
            Check.argumentRefused("not counted", () -> x.chord(61, 0, 0, 0));
            Check.equal("chord", x.chord(40, 30, 20, 10), count);
        }
    }

    /** "a row of 1 to 16 chords", chord throws IllegalStateException "if the draft has 16 chords", tones are refused before. */
    private static void sixteenChordsAtMost() {
        ChoirPlanner x = new ChoirPlanner();
        for (int count = 1; count <= 15; count++) {
            x.chord(40, 30, 20, 10);
        }
        Check.equal("the sixteenth", x.chord(41, 31, 21, 11), 16);
        for (int attempt = 0; attempt < 3; attempt++) {
            Check.stateRefused("the seventeenth", () -> x.chord(40, 30, 20, 10));
        }
        Check.argumentRefused("first before", () -> x.chord(61, 30, 20, 10));
        Check.argumentRefused("second before", () -> x.chord(40, 41, 20, 10));
        Check.argumentRefused("third before", () -> x.chord(40, 30, 31, 10));
        Check.argumentRefused("fourth before", () -> x.chord(40, 30, 20, 21));
        Check.equal("a piece of them", x.addPiece(1), 0);
        Check.equal("its sixteenth chord", x.setTone(0, 15, 0, 41), 41);
        Check.indexRefused("no seventeenth", () -> x.faultsAt(0, 16));
        Check.equal("a piece of one", addPiece(x, 40, 30, 20, 10), 1);
        Check.equal("its first chord", x.faultsAt(1, 0), 0);
        Check.indexRefused("no second", () -> x.faultsAt(1, 1));
    }

    /** addPiece: "the draft, which is empty then"; the piece keeps its chords. */
    private static void draftAfterAPiece() {
        ChoirPlanner x = withChords(16);
        Check.stateRefused("nothing in the draft", () -> x.addPiece(1));
        for (int count = 1; count <= 16; count++) {
            Check.equal("the draft anew", x.chord(50, 50, 50, 50), count);
        }
        Check.stateRefused("full again", () -> x.chord(50, 50, 50, 50));
        Check.equal("the next piece", x.addPiece(1), 1);
        for (int chord = 0; chord < 16; chord++) {
            Check.equal("the first piece stays", x.setTone(0, chord, 0, 60), 40);
            Check.equal("the next has its own", x.setTone(1, chord, 0, 60), 50);
        }
    }

    /** addPiece, "seconds: its length, 1 to 3600". */
    private static void lengthOfAPiece() {
        ChoirPlanner x = new ChoirPlanner();
        for (int voice = 0; voice < 4; voice++) {
            x.addSinger(voice, 0, 60);
        }
        x.chord(40, 30, 20, 10);
        int[] wrong = {0, 3601, -1, -3600, Integer.MIN_VALUE, Integer.MAX_VALUE};
        for (int seconds : wrong) {
            Check.argumentRefused("length " + seconds, () -> x.addPiece(seconds));
        }
        Check.equal("length 1", x.addPiece(1), 0);
        Check.equal("as long", x.duration(0, 20000), 1);
        x.chord(40, 30, 20, 10);
        Check.equal("length 3600", x.addPiece(3600), 1);
        Check.equal("as long together", x.duration(0, 20000), 3601);
    }

    /** "Pieces are numbered from 0", addPiece "returns its number". */
    private static void numbersOfPieces() {
        ChoirPlanner x = new ChoirPlanner();
        for (int piece = 0; piece < 6; piece++) {
            Check.stateRefused("takes no number", () -> x.addPiece(10));
            Check.equal("number", addPiece(x, 40 + piece, 30, 20, 10), piece);
            Check.equal("the piece of that number", x.setTone(piece, 0, 0, 40 + piece), 40 + piece);
        }
    }

    /** addPiece throws IllegalStateException "if the draft is empty". */
    private static void pieceOfAnEmptyDraft() {
        ChoirPlanner x = new ChoirPlanner();
        Check.stateRefused("at first", () -> x.addPiece(10));
        Check.argumentRefused("a refused chord", () -> x.chord(0, 1, 0, 0));
        Check.stateRefused("after a refused chord", () -> x.addPiece(10));
        x.chord(0, 0, 0, 0);
        Check.equal("one chord is enough", x.addPiece(10), 0);
        Check.stateRefused("after a piece", () -> x.addPiece(10));
        Check.indexRefused("no second piece", () -> x.faults(1));
    }

    /** "there are at most 6", addPiece throws IllegalStateException if "there are 6 pieces", and keeps the draft. */
    private static void sixPiecesAtMost() {
        ChoirPlanner x = withPieces(5);
        Check.equal("the sixth", addPiece(x, 60, 30, 20, 10), 5);
        Check.stateRefused("an empty draft too", () -> x.addPiece(10));
        Check.equal("a draft is made", x.chord(40, 30, 20, 10), 1);
        for (int attempt = 0; attempt < 3; attempt++) {
            Check.stateRefused("the seventh", () -> x.addPiece(10));
        }
        Check.equal("the draft is kept", x.chord(40, 30, 20, 10), 2);
        Check.indexRefused("number 6", () -> x.faults(6));
        Check.equal("the sixth stays", x.setTone(5, 0, 0, 60), 60);
        Check.indexRefused("with one chord", () -> x.faultsAt(5, 1));
    }

    /** addPiece throws IllegalArgumentException ahead of IllegalStateException. */
    private static void addPieceRefusesTheLengthFirst() {
        ChoirPlanner x = new ChoirPlanner();
        Check.argumentRefused("with an empty draft", () -> x.addPiece(0));
        Check.argumentRefused("with an empty draft", () -> x.addPiece(3601));
        ChoirPlanner full = withPieces(6);
        full.chord(40, 30, 20, 10);
        Check.argumentRefused("with 6 pieces", () -> full.addPiece(0));
        Check.argumentRefused("with 6 pieces", () -> full.addPiece(3601));
        Check.stateRefused("the length 1 is right", () -> full.addPiece(1));
        Check.stateRefused("the length 3600 is right", () -> full.addPiece(3600));
    }

    /** setTone throws IndexOutOfBoundsException "if there is no such piece". */
    private static void pieceToSet() {
        for (int count = 1; count <= 6; count++) {
            ChoirPlanner x = withPieces(count);
            int next = count;
            Check.equal("the last of " + count, x.setTone(count - 1, 0, 0, 41), 40);
            Check.indexRefused("one beyond " + count, () -> x.setTone(next, 0, 0, 41));
            for (int piece : NO_PIECES) {
                Check.indexRefused("piece " + piece, () -> x.setTone(piece, 0, 0, 41));
            }
        }
    }

    /** setTone throws IndexOutOfBoundsException "if there is no such ... chord". */
    private static void chordToSet() {
        for (int count = 1; count <= 16; count++) {
            ChoirPlanner x = withChords(count);
            int next = count;
            Check.equal("the last of " + count, x.setTone(0, count - 1, 3, 9), 10);
            Check.indexRefused("one beyond " + count, () -> x.setTone(0, next, 3, 9));
        }
        ChoirPlanner x = withChords(16);
        addPiece(x, 40, 30, 20, 10);
        for (int chord : NO_CHORDS) {
            Check.indexRefused("chord " + chord, () -> x.setTone(0, chord, 0, 41));
        }
        Check.indexRefused("a chord of another piece", () -> x.setTone(1, 1, 0, 41));
        x.chord(40, 30, 20, 10);
        Check.indexRefused("a chord of the draft", () -> x.setTone(1, 1, 0, 41));
    }

    /** setTone, "voice: 0 to 3". */
    private static void voiceToSet() {
        ChoirPlanner x = withChords(2);
        for (int voice : NO_VOICES) {
            Check.argumentRefused("voice " + voice, () -> x.setTone(0, 0, voice, 20));
            Check.argumentRefused("voice " + voice + " of the last chord", () -> x.setTone(0, 1, voice, 20));
        }
        for (int chord = 0; chord < 2; chord++) {
            Check.equal("voice 0", x.setTone(0, chord, 0, 41), 40);
            Check.equal("voice 3", x.setTone(0, chord, 3, 11), 10);
            Check.equal("voice 1 stays", x.setTone(0, chord, 1, 30), 30);
            Check.equal("voice 2 stays", x.setTone(0, chord, 2, 20), 20);
        }
    }

    /** setTone, "tone: 0 to 60". */
    private static void toneToSet() {
        ChoirPlanner x = withPiece(60, 60, 0, 0);
        for (int tone : NO_TONES) {
            for (int voice = 0; voice <= 3; voice++) {
                int each = voice;
                Check.argumentRefused("tone " + tone, () -> x.setTone(0, 0, each, tone));
            }
        }
        Check.equal("voice 1 to 0", x.setTone(0, 0, 1, 0), 60);
        Check.equal("voice 0 to 0", x.setTone(0, 0, 0, 0), 60);
        for (int voice = 0; voice <= 3; voice++) {
            Check.equal("voice " + voice + " to 60", x.setTone(0, 0, voice, 60), 0);
        }
        for (int voice = 3; voice >= 0; voice--) {
            Check.equal("voice " + voice + " to 0", x.setTone(0, 0, voice, 0), 60);
        }
    }

    /** setTone throws IllegalStateException if it "would be higher than that of the next higher voice"; as high is right. */
    private static void setToneUpToTheNextHigherVoice() {
        int[] tones = {40, 30, 20, 10};
        for (int voice = 1; voice <= 3; voice++) {
            ChoirPlanner x = withPiece(40, 30, 20, 10, 60, 60, 60, 60);
            int each = voice;
            int upper = tones[voice - 1];
            Check.stateRefused("one higher", () -> x.setTone(0, 0, each, upper + 1));
            Check.stateRefused("60", () -> x.setTone(0, 0, each, 60));
            Check.equal("as high", x.setTone(0, 0, voice, upper), tones[voice]);
            Check.equal("one lower", x.setTone(0, 0, voice, upper - 1), upper);
        }
        ChoirPlanner x = withPiece(40, 30, 20, 10);
        Check.equal("no voice is higher than 0", x.setTone(0, 0, 0, 60), 40);
    }

    /** setTone throws IllegalStateException if it would be "lower than that of the next lower one"; as low is right. */
    private static void setToneDownToTheNextLowerVoice() {
        int[] tones = {40, 30, 20, 10};
        for (int voice = 0; voice <= 2; voice++) {
            ChoirPlanner x = withPiece(40, 30, 20, 10, 0, 0, 0, 0);
            int each = voice;
            int lower = tones[voice + 1];
            Check.stateRefused("one lower", () -> x.setTone(0, 0, each, lower - 1));
            Check.stateRefused("0", () -> x.setTone(0, 0, each, 0));
            Check.equal("as low", x.setTone(0, 0, voice, lower), tones[voice]);
            Check.equal("one higher", x.setTone(0, 0, voice, lower + 1), lower);
        }
        ChoirPlanner x = withPiece(40, 30, 20, 10);
        Check.equal("no voice is lower than 3", x.setTone(0, 0, 3, 0), 10);
    }

    /** setTone returns "the tone before", which may be the same; no other tone is set. */
    private static void toneBefore() {
        ChoirPlanner x = withPieces(2);
        Check.equal("another tone", x.setTone(0, 1, 1, 25), 30);
        Check.equal("the same tone", x.setTone(0, 1, 1, 25), 25);
        Check.equal("and back", x.setTone(0, 1, 1, 30), 25);
        x.setTone(0, 1, 1, 29);
        for (int piece = 0; piece < 2; piece++) {
            for (int chord = 0; chord < 3; chord++) {
                for (int voice = 0; voice < 4; voice++) {
                    int due = piece == 0 && chord == 1 && voice == 1 ? 29 : 40 - 10 * voice;
                    Check.equal("tone", x.setTone(piece, chord, voice, due), due);
                }
            }
        }
    }

    /** setTone throws IndexOutOfBoundsException, then IllegalArgumentException, then IllegalStateException. */
    private static void setToneRefusesInOrder() {
        ChoirPlanner x = withChords(1);
        Check.indexRefused("piece ahead of voice", () -> x.setTone(1, 0, 4, 40));
        Check.indexRefused("piece ahead of tone", () -> x.setTone(1, 0, 0, 61));
        Check.indexRefused("chord ahead of voice", () -> x.setTone(0, 1, 4, 40));
        Check.indexRefused("chord ahead of tone", () -> x.setTone(0, 1, 0, 61));
        Check.indexRefused("chord ahead of crossing", () -> x.setTone(0, 1, 1, 41));
        Check.argumentRefused("voice ahead of crossing", () -> x.setTone(0, 0, 4, 60));
        Check.argumentRefused("tone ahead of crossing up", () -> x.setTone(0, 0, 1, 61));
        Check.argumentRefused("tone ahead of crossing down", () -> x.setTone(0, 0, 1, -1));
        Check.stateRefused("crossing alone", () -> x.setTone(0, 0, 1, 60));
    }

    /** faultsAt throws IndexOutOfBoundsException "if there is no such piece or chord". */
    private static void pieceAndChordOfAMove() {
        for (int count = 1; count <= 6; count++) {
            ChoirPlanner x = withPieces(count);
            int next = count;
            Check.equal("the last of " + count, x.faultsAt(count - 1, 2), 0);
            Check.indexRefused("one beyond " + count, () -> x.faultsAt(next, 0));
            Check.indexRefused("one beyond its chords", () -> x.faultsAt(next - 1, 3));
        }
        ChoirPlanner x = withChords(16);
        Check.equal("chord 15", x.faultsAt(0, 15), 0);
        for (int chord : NO_CHORDS) {
            Check.indexRefused("chord " + chord, () -> x.faultsAt(0, chord));
        }
        for (int piece : NO_PIECES) {
            Check.indexRefused("piece " + piece, () -> x.faultsAt(piece, 0));
        }
    }

    /** faultsAt returns "0 for the first chord", however it stands to others. */
    private static void noMoveToTheFirstChord() {
        ChoirPlanner x = withPiece(60, 60, 60, 60);
        Check.equal("of a single chord", x.faultsAt(0, 0), 0);
        addPiece(x, 0, 0, 0, 0, 60, 60, 60, 60);
        Check.equal("of another piece", x.faultsAt(1, 0), 0);
        x.setTone(1, 0, 0, 60);
        Check.equal("after a tone of it is set", x.faultsAt(1, 0), 0);
    }

    /** "A move has a leap for each voice that goes by more than 7 tones": 7 are none, 8 are one, up and down. */
    private static void leapsByMoreThanSeven() {
        int[] from = {50, 35, 20, 8};
        for (int voice = 0; voice < 4; voice++) {
            for (int step = -8; step <= 8; step++) {
                int[] tones = new int[8];
                for (int each = 0; each < 4; each++) {
                    tones[each] = from[each];
                    tones[4 + each] = from[each] + (each == voice ? step : 0);
                }
                Check.equal("voice " + voice + " by " + step, faultsOfMove(tones), step == 8 || step == -8 ? 1 : 0);
            }
        }
        Check.equal("by 60 up", faultsOfMove(0, 0, 0, 0, 60, 0, 0, 0), 1);
        Check.equal("by 60 down", faultsOfMove(60, 60, 60, 60, 60, 60, 60, 0), 1);
        Check.equal("all four, apart", faultsOfMove(45, 30, 16, 3, 53, 39, 26, 14), 4);
        Check.equal("all four by 7", faultsOfMove(40, 35, 20, 10, 47, 28, 27, 3), 0);
    }

    /** "what is left of it when 12 is taken away as long as it is more than 12 is 0, 7 or 12". */
    private static void intervalsThatAreTold() {
        int[] told = {0, 7, 12, 19, 24, 31, 36, 43, 48, 55};
        for (int interval : told) {
            Check.equal("told " + interval, faultsOfMove(interval, 0, 0, 0, interval + 1, 1, 0, 0), 3);
        }
        int[] untold = {1, 6, 8, 11, 13, 18, 20, 23, 25, 30, 32, 35, 37, 42, 44, 47, 49, 54, 56, 59};
        for (int interval : untold) {
            Check.equal("untold " + interval, faultsOfMove(interval, 0, 0, 0, interval + 1, 1, 0, 0), 0);
        }
    }

    /** "the whole interval is the same in both chords": the same left of it is not enough. */
    private static void wholeIntervalTheSame() {
        Check.equal("0 to 12", faultsOfMove(20, 20, 3, 3, 33, 21, 3, 3), 1);
        Check.equal("12 to 0", faultsOfMove(33, 21, 3, 3, 20, 20, 3, 3), 1);
        Check.equal("12 to 24", faultsOfMove(32, 20, 3, 3, 45, 21, 3, 3), 1);
        Check.equal("24 to 12", faultsOfMove(45, 21, 3, 3, 32, 20, 3, 3), 1);
        Check.equal("7 to 19", faultsOfMove(27, 20, 3, 3, 40, 21, 3, 3), 1);
        Check.equal("19 to 7", faultsOfMove(40, 21, 3, 3, 27, 20, 3, 3), 1);
        Check.equal("0 to 7", faultsOfMove(20, 20, 3, 3, 28, 21, 3, 3), 1);
        Check.equal("7 to 8", faultsOfMove(27, 20, 3, 3, 29, 21, 3, 3), 0);
        Check.equal("7 to 6", faultsOfMove(27, 20, 3, 3, 28, 22, 3, 3), 0);
        Check.equal("7 to 7", faultsOfMove(27, 20, 3, 3, 28, 21, 3, 3), 3);
    }

    /** "two voices, which both move to other tones". */
    private static void bothMove() {
        Check.equal("none moves", faultsOfMove(40, 33, 21, 9, 40, 33, 21, 9), 0);
        Check.equal("the upper one alone", faultsOfMove(40, 33, 20, 4, 41, 33, 20, 4), 0);
        Check.equal("the lower one alone", faultsOfMove(40, 33, 20, 4, 40, 32, 20, 4), 0);
        Check.equal("both by 1", faultsOfMove(40, 33, 20, 4, 41, 34, 20, 4), 3);
        Check.equal("two move, two stand in an octave", faultsOfMove(40, 33, 16, 4, 41, 34, 16, 4), 3);
    }

    /** "in the same direction", which may be up or down. */
    private static void sameDirection() {
        Check.equal("both up", faultsOfMove(40, 33, 20, 4, 42, 35, 20, 4), 3);
        Check.equal("both down", faultsOfMove(40, 33, 20, 4, 38, 31, 20, 4), 3);
        Check.equal("apart, from 7 to 7 + 12", faultsOfMove(40, 33, 20, 4, 46, 27, 20, 4), 0);
        Check.equal("together, from 12 to 0", faultsOfMove(40, 28, 20, 4, 34, 34, 20, 4), 0);
    }

    /** "The faults of a move are 3 for each pair of voices that has a parallel, and 1 for each leap". */
    private static void threeForEachPair() {
        Check.equal("one pair", faultsOfMove(40, 28, 17, 4, 41, 29, 17, 4), 3);
        Check.equal("two pairs", faultsOfMove(40, 33, 20, 8, 41, 34, 21, 9), 6);
        Check.equal("three pairs of three voices", faultsOfMove(40, 28, 16, 2, 41, 29, 17, 2), 9);
        Check.equal("all six pairs", faultsOfMove(48, 36, 24, 12, 47, 35, 23, 11), 18);
        Check.equal("all six pairs by 7", faultsOfMove(48, 36, 24, 12, 41, 29, 17, 5), 18);
        Check.equal("all six pairs by 8", faultsOfMove(48, 36, 24, 12, 40, 28, 16, 4), 22);
        Check.equal("a parallel and a leap beside it", faultsOfMove(48, 36, 24, 5, 49, 37, 16, 5), 4);
    }

    /** faults throws IndexOutOfBoundsException "if there is no such piece". */
    private static void faultsOfNoPiece() {
        for (int count = 1; count <= 6; count++) {
            ChoirPlanner x = withPieces(count);
            int next = count;
            Check.equal("the last of " + count, x.faults(count - 1), 0);
            Check.indexRefused("one beyond " + count, () -> x.faults(next));
            for (int piece : NO_PIECES) {
                Check.indexRefused("piece " + piece, () -> x.faults(piece));
            }
        }
    }

    /** "those of a piece are the sum over its moves": no move in a piece of one chord, 15 in one of 16. */
    private static void faultsOfAllMoves() {
        Check.equal("one chord", withPiece(60, 60, 60, 60).faults(0), 0);
        Check.equal("two chords", withPiece(20, 20, 20, 20, 28, 28, 28, 28).faults(0), 22);
        ChoirPlanner x = new ChoirPlanner();
        for (int chord = 0; chord < 16; chord++) {
            int tone = chord % 2 == 0 ? 20 : 28;
            x.chord(tone, tone, tone, tone);
        }
        x.addPiece(10);
        Check.equal("sixteen chords", x.faults(0), 15 * 22);
        addPiece(x, 40, 30, 20, 10, 48, 30, 20, 10);
        Check.equal("the moves of its own alone", x.faults(1), 1);
        Check.equal("none from piece to piece", x.faults(0), 15 * 22);
    }

    /** leastFaults throws IndexOutOfBoundsException "if there is no such piece". */
    private static void pieceOfLeastFaults() {
        for (int count = 1; count <= 6; count++) {
            ChoirPlanner x = withPieces(count);
            int next = count;
            Check.equal("the last of " + count, x.leastFaults(count - 1, 1, 0), 0);
            Check.indexRefused("one beyond " + count, () -> x.leastFaults(next, 1, 0));
            for (int piece : NO_PIECES) {
                Check.indexRefused("piece " + piece, () -> x.leastFaults(piece, 1, 0));
            }
        }
    }

    /** leastFaults: a chord "which is neither the first nor the last one"; IndexOutOfBoundsException for any other. */
    private static void neitherTheFirstNorTheLastChord() {
        for (int count = 1; count <= 16; count++) {
            ChoirPlanner x = withChords(count);
            for (int chord = -1; chord <= 16; chord++) {
                int each = chord;
                if (chord >= 1 && chord <= count - 2) {
                    Check.equal("chord " + chord + " of " + count, x.leastFaults(0, chord, 0), 0);
                } else {
                    Check.indexRefused("chord " + chord + " of " + count, () -> x.leastFaults(0, each, 0));
                }
            }
        }
        ChoirPlanner x = withChords(16);
        for (int chord : NO_CHORDS) {
            Check.indexRefused("chord " + chord, () -> x.leastFaults(0, chord, 0));
        }
    }

    /** leastFaults, "voice: 0 to 3". */
    private static void voiceOfLeastFaults() {
        ChoirPlanner x = withPieces(1);
        for (int voice = 0; voice <= 3; voice++) {
            Check.equal("voice " + voice, x.leastFaults(0, 1, voice), 0);
        }
        for (int voice : NO_VOICES) {
            Check.argumentRefused("voice " + voice, () -> x.leastFaults(0, 1, voice));
        }
    }

    /** leastFaults throws IndexOutOfBoundsException ahead of IllegalArgumentException. */
    private static void leastFaultsRefusesTheChordFirst() {
        ChoirPlanner x = withPieces(1);
        Check.indexRefused("piece ahead of voice", () -> x.leastFaults(1, 1, 4));
        Check.indexRefused("no chord ahead of voice", () -> x.leastFaults(0, 3, 4));
        Check.indexRefused("first chord ahead of voice", () -> x.leastFaults(0, 0, 4));
        Check.indexRefused("last chord ahead of voice", () -> x.leastFaults(0, 2, -1));
        Check.argumentRefused("voice alone", () -> x.leastFaults(0, 1, 4));
    }

    /** leastFaults: "so that no voice is higher than the next higher one"; as high is right. */
    private static void leastFaultsUpToTheNextHigherVoice() {
        ChoirPlanner just = withPiece(60, 40, 2, 1, 32, 9, 2, 1, 60, 40, 2, 1);
        Check.equal("four leaps", just.faults(0), 4);
        Check.equal("free with 33 to 47, 32 is the highest", just.leastFaults(0, 1, 1), 4);
        just.setTone(0, 1, 0, 33);
        Check.equal("33 is the highest and just enough", just.leastFaults(0, 1, 1), 2);
        Check.equal("its neighbour cannot go up beyond", just.leastFaults(0, 1, 2), 4);
        ChoirPlanner lowest = withPiece(30, 30, 30, 28, 30, 30, 20, 9, 30, 30, 30, 28);
        Check.equal("four leaps, of the third and the fourth", lowest.faults(0), 4);
        Check.equal("free with 21 to 35, 20 is the highest", lowest.leastFaults(0, 1, 3), 4);
        lowest.setTone(0, 1, 2, 21);
        Check.equal("21 is the highest and just enough", lowest.leastFaults(0, 1, 3), 2);
    }

    /** leastFaults: no next lower one is higher than the voice then; as low is right. */
    private static void leastFaultsDownToTheNextLowerVoice() {
        ChoirPlanner just = withPiece(60, 20, 19, 1, 60, 50, 28, 1, 60, 20, 19, 1);
        Check.equal("four leaps", just.faults(0), 4);
        Check.equal("free with 13 to 27, 28 is the lowest", just.leastFaults(0, 1, 1), 4);
        just.setTone(0, 1, 2, 27);
        Check.equal("27 is the lowest and just enough", just.leastFaults(0, 1, 1), 2);
        ChoirPlanner highest = withPiece(32, 30, 30, 30, 51, 40, 30, 30, 32, 30, 30, 30);
        Check.equal("four leaps, of the first and the second", highest.faults(0), 4);
        Check.equal("free with 25 to 39, 40 is the lowest", highest.leastFaults(0, 1, 0), 4);
        highest.setTone(0, 1, 1, 39);
        Check.equal("39 is the lowest and just enough", highest.leastFaults(0, 1, 0), 2);
    }

    /** leastFaults: a tone of the voice 0 goes up to 60, one of the voice 3 down to 0. */
    private static void leastFaultsWithinTheTones() {
        ChoirPlanner top = withPiece(60, 60, 60, 60, 59, 59, 59, 59, 60, 60, 60, 60);
        Check.equal("60 leaves three voices in parallel", top.leastFaults(0, 1, 0), 18);
        ChoirPlanner beyond = withPiece(59, 59, 59, 59, 60, 60, 60, 60, 59, 59, 59, 59);
        Check.equal("61 would be better", beyond.leastFaults(0, 1, 0), 36);
        ChoirPlanner bottom = withPiece(0, 0, 0, 0, 1, 1, 1, 1, 0, 0, 0, 0);
        Check.equal("0 leaves three voices in parallel", bottom.leastFaults(0, 1, 3), 18);
        ChoirPlanner below = withPiece(1, 1, 1, 1, 0, 0, 0, 0, 1, 1, 1, 1);
        Check.equal("-1 would be better", below.leastFaults(0, 1, 3), 36);
    }

    /** leastFaults: "the least faults of all tones, that which it has included". */
    private static void leastFaultsWithTheToneThatItHas() {
        ChoirPlanner only = withPiece(20, 20, 20, 20, 28, 28, 28, 28, 20, 20, 20, 20);
        Check.equal("no other tone between the others", only.leastFaults(0, 1, 1), 44);
        Check.equal("nor for the third", only.leastFaults(0, 1, 2), 44);
        ChoirPlanner best = withPiece(60, 30, 20, 0, 60, 38, 20, 0, 60, 46, 38, 0);
        Check.equal("a leap each of the second and the third", best.faults(0), 3);
        Check.equal("of the second one must stay", best.leastFaults(0, 1, 1), 2);
        ChoirPlanner one = withPiece(60, 40, 20, 0, 60, 33, 20, 0, 60, 26, 20, 0);
        Check.equal("33 alone is free", one.leastFaults(0, 1, 1), 0);
        one.setTone(0, 2, 1, 25);
        Check.equal("32 and 33 have one leap", one.leastFaults(0, 1, 1), 1);
    }

    /** leastFaults: "Nothing changes." */
    private static void leastFaultsChangesNothing() {
        int[] tones = {48, 36, 24, 12, 40, 28, 16, 4, 60, 30, 20, 0, 48, 36, 24, 12};
        ChoirPlanner x = withPiece(tones);
        ChoirPlanner untouched = withPiece(tones);
        x.rehearse(0, 7);
        untouched.rehearse(0, 7);
        for (int chord = 1; chord <= 2; chord++) {
            for (int voice = 0; voice < 4; voice++) {
                Check.that("another tone is better", chord == 2 || x.leastFaults(0, chord, voice) < x.faults(0));
                Check.equal("the same again", x.leastFaults(0, chord, voice), untouched.leastFaults(0, chord, voice));
            }
        }
        Check.equal("faults", x.faults(0), untouched.faults(0));
        for (int chord = 0; chord < 4; chord++) {
            Check.equal("faults of each move", x.faultsAt(0, chord), untouched.faultsAt(0, chord));
            Check.equal("weakness", x.weakness(0, chord), untouched.weakness(0, chord));
            for (int voice = 0; voice < 4; voice++) {
                int due = tones[4 * chord + voice];
                Check.equal("tone", x.setTone(0, chord, voice, due), due);
            }
        }
    }
}
