/**
 * The sentences on dates and programmes that name an edge, one test each: promises 12 to 16 and the terms that they use.
 * The sentence stands above its test.
 */
final class EdgesOfDatesTest {
    private static final int[] NO_PIECES = {-1, 6, 7, 32, Integer.MIN_VALUE, Integer.MAX_VALUE};
    /** Beyond an edge by one, by a whole turn of an int's bits, and by as much as an int can be. */
    private static final int[] NO_DATES = {-1, 31, 32, 62, 63, 64, -32, Integer.MIN_VALUE, Integer.MAX_VALUE};
    private static final int[] NO_TIMES = {-1, 20001, -20000, Integer.MIN_VALUE, Integer.MAX_VALUE};

    private EdgesOfDatesTest() {
    }

    public static void main(String[] args) {
        pieceOfAShift();
        dateOfAShift();
        shiftRefusesInOrder();
        shiftsFromMinus12To12();
        shiftNearestTo0();
        shiftAtTheEndsOfTheTones();
        shiftOfTheWidestPiece();
        shiftNeedsEachVoice();
        shiftNeedsEachChord();
        shiftChangesNothing();
        pieceOfDates();
        datesFrom0To31();
        datesNeedAShiftOfAtMost12();
        dateOfTheMissed();
        missedWhoseVoiceHasNobody();
        missedFrom0To12();
        dateOfAProgramme();
        timeOfAProgramme();
        lengthsTogetherAtMostTheTime();
        asGreatAsPossible();
        fewestPieces();
        lowestNumberInWhichTheyDiffer();
        piecesWithAShiftOnTheDate();
        programmeOfNoPieces();
        programmeOfSixPieces();
        Check.end("EdgesOfDatesTest");
    }

    /** A choir whose voices can each sing 15 tones, from 40, 30, 20 and 10 on. */
    private static ChoirPlanner choir() {
        ChoirPlanner x = new ChoirPlanner();
        for (int voice = 0; voice < 4; voice++) {
            x.addSinger(voice, 40 - 10 * voice, 54 - 10 * voice);
        }
        return x;
    }

    /** A choir that can sing all its pieces, which have the given lengths. */
    private static ChoirPlanner withLengths(int... lengths) {
        ChoirPlanner x = choir();
        for (int seconds : lengths) {
            x.chord(47, 37, 27, 17);
            x.addPiece(seconds);
        }
        return x;
    }

    /** A choir that can sing one tone in each voice, with a piece of these tones that stands as much lower. */
    private static ChoirPlanner apartBy(int tones) {
        ChoirPlanner x = new ChoirPlanner();
        for (int voice = 0; voice < 4; voice++) {
            x.addSinger(voice, 36 - voice, 36 - voice);
        }
        x.chord(36 - tones, 35 - tones, 34 - tones, 33 - tones);
        x.addPiece(10);
        return x;
    }

    private static void programme(ChoirPlanner x, int seconds, int set, int duration) {
        Check.equal("programme of " + seconds, x.programme(0, seconds), set);
        Check.equal("duration of " + seconds, x.duration(0, seconds), duration);
    }

    /** shift throws IndexOutOfBoundsException "if there is no such piece". */
    private static void pieceOfAShift() {
        int[] lengths = {10, 10, 10, 10, 10, 10};
        for (int count = 1; count <= 6; count++) {
            ChoirPlanner x = withLengths(java.util.Arrays.copyOf(lengths, count));
            int next = count;
            Check.equal("the last of " + count, x.shift(count - 1, 0), 0);
            Check.indexRefused("one beyond " + count, () -> x.shift(next, 0));
            for (int piece : NO_PIECES) {
                Check.indexRefused("piece " + piece, () -> x.shift(piece, 0));
            }
        }
    }

    /** shift, "date: 0 to 30". */
    private static void dateOfAShift() {
        ChoirPlanner x = withLengths(10);
        Check.equal("date 0", x.shift(0, 0), 0);
        Check.equal("date 30", x.shift(0, 30), 0);
        for (int date : NO_DATES) {
            Check.argumentRefused("date " + date, () -> x.shift(0, date));
        }
    }

    /** shift throws IndexOutOfBoundsException, then IllegalArgumentException, then IllegalStateException. */
    private static void shiftRefusesInOrder() {
        ChoirPlanner x = apartBy(13);
        Check.indexRefused("piece ahead of date", () -> x.shift(1, 31));
        Check.indexRefused("piece ahead of date", () -> x.shift(-1, -1));
        Check.argumentRefused("date ahead of no shift", () -> x.shift(0, 31));
        Check.argumentRefused("date ahead of no shift", () -> x.shift(0, -1));
        Check.stateRefused("no shift alone", () -> x.shift(0, 30));
    }

    /** shift returns "-12 to 12", and throws IllegalStateException "if it cannot be sung with any shift from -12 to 12". */
    private static void shiftsFromMinus12To12() {
        for (int shift = -12; shift <= 12; shift++) {
            Check.equal("the one shift", apartBy(shift).shift(0, 0), shift);
        }
        int[] tooFar = {13, 14, 24, 33, -13, -14, -24};
        for (int tones : tooFar) {
            ChoirPlanner x = apartBy(tones);
            Check.stateRefused("apart by " + tones, () -> x.shift(0, 0));
        }
    }

    /** "that with which it can be sung and which is nearest to 0", 0 itself too. */
    private static void shiftNearestTo0() {
        int[] shifts = {2, 1, 0, 0, -1, -2};
        for (int piece = 0; piece < 6; piece++) {
            ChoirPlanner x = choir();
            for (int voice = 0; voice < 4; voice++) {
                x.addSinger(voice, 40 - 10 * voice, 41 - 10 * voice);
            }
            int tone = 38 + piece;
            x.chord(tone, tone - 10, tone - 20, tone - 30);
            x.addPiece(10);
            Check.equal("of two shifts for " + tone, x.shift(0, 0), shifts[piece]);
        }
        ChoirPlanner wide = new ChoirPlanner();
        for (int voice = 0; voice < 4; voice++) {
            wide.addSinger(voice, 0, 60);
        }
        wide.chord(30, 30, 30, 30);
        wide.addPiece(10);
        Check.equal("all can be sung, 0 is nearest", wide.shift(0, 0), 0);
        wide.setTone(0, 0, 0, 60);
        wide.setTone(0, 0, 3, 0);
        Check.equal("0 alone can be sung, from 0 to 60", wide.shift(0, 0), 0);
        wide.addSinger(3, 1, 60);
        Check.stateRefused("none", () -> wide.shift(0, 0));
    }

    /** "Tones are numbers from 0 to 60": the lowest and the highest one are sung as any other. */
    private static void shiftAtTheEndsOfTheTones() {
        for (int tone = 0; tone <= 60; tone += 60) {
            for (int distance = 0; distance <= 13; distance++) {
                ChoirPlanner x = new ChoirPlanner();
                for (int voice = 0; voice < 4; voice++) {
                    x.addSinger(voice, tone, tone);
                }
                int apart = tone == 0 ? distance : -distance;
                x.chord(tone + apart, tone + apart, tone + apart, tone + apart);
                x.addPiece(10);
                if (distance <= 12) {
                    Check.equal("to " + tone, x.shift(0, 0), -apart);
                } else {
                    Check.stateRefused("too far from " + tone, () -> x.shift(0, 0));
                }
            }
        }
    }

    /** "all its tones, each greater by that, are in the range of the voice": as wide as the range fits, wider by one does not. */
    private static void shiftOfTheWidestPiece() {
        for (int voice = 0; voice < 4; voice++) {
            ChoirPlanner x = choir();
            int[] low = {47, 37, 27, 17};
            int[] high = {47, 37, 27, 17};
            low[voice] -= 7;
            high[voice] += 7;
            x.chord(low[0], low[1], low[2], low[3]);
            x.chord(high[0], high[1], high[2], high[3]);
            x.addPiece(10);
            Check.equal("15 tones in 15", x.shift(0, 0), 0);
            Check.equal("a tone before", x.setTone(0, 0, voice, low[voice] - 1), low[voice]);
            Check.stateRefused("16 tones in 15", () -> x.shift(0, 0));
            x.setTone(0, 1, voice, high[voice] - 1);
            Check.equal("15 tones, one lower", x.shift(0, 0), 1);
            x.setTone(0, 0, voice, low[voice]);
            x.setTone(0, 1, voice, high[voice] + 1);
            Check.stateRefused("16 tones in 15", () -> x.shift(0, 0));
            x.setTone(0, 0, voice, low[voice] + 1);
            Check.equal("15 tones, one higher", x.shift(0, 0), -1);
        }
    }

    /** "if for each voice": one voice without singers, or whose range is empty, is enough to lack the piece. */
    private static void shiftNeedsEachVoice() {
        for (int voice = 0; voice < 4; voice++) {
            ChoirPlanner x = withLengths(10);
            x.tell(voice, 0, false);
            Check.stateRefused("voice " + voice + " has nobody", () -> x.shift(0, 0));
            Check.equal("on the next date it has", x.shift(0, 1), 0);
            x.addSinger(voice, 55 - 10 * voice, 55 - 10 * voice);
            Check.stateRefused("the range of voice " + voice + " is empty", () -> x.shift(0, 1));
        }
        ChoirPlanner nobody = new ChoirPlanner();
        nobody.chord(0, 0, 0, 0);
        nobody.addPiece(10);
        Check.stateRefused("no singers at all", () -> nobody.shift(0, 0));
        ChoirPlanner apart = withLengths(10);
        apart.setTone(0, 0, 0, 55);
        Check.equal("down for one", apart.shift(0, 0), -1);
        apart.setTone(0, 0, 3, 9);
        Check.stateRefused("down for one, up for another", () -> apart.shift(0, 0));
    }

    /** "all its tones": of the first chord, of the last one, and of those between. */
    private static void shiftNeedsEachChord() {
        for (int chord = 0; chord < 16; chord++) {
            ChoirPlanner x = choir();
            for (int each = 0; each < 16; each++) {
                x.chord(47, 37, 27, 17);
            }
            x.addPiece(10);
            x.setTone(0, chord, 1, 47);
            Check.equal("chord " + chord + " too high", x.shift(0, 0), -3);
            x.setTone(0, chord, 1, 28);
            Check.equal("chord " + chord + " too low", x.shift(0, 0), 2);
        }
    }

    /** Transposing is asked for: the piece stays where it is. */
    private static void shiftChangesNothing() {
        ChoirPlanner x = apartBy(5);
        Check.equal("the shift", x.shift(0, 0), 5);
        Check.equal("the shift again", x.shift(0, 0), 5);
        for (int voice = 0; voice < 4; voice++) {
            Check.equal("the tones stay", x.setTone(0, 0, voice, 31 - voice), 31 - voice);
        }
    }

    /** dates throws IndexOutOfBoundsException "if there is no such piece". */
    private static void pieceOfDates() {
        int[] lengths = {10, 10, 10, 10, 10, 10};
        for (int count = 1; count <= 6; count++) {
            ChoirPlanner x = withLengths(java.util.Arrays.copyOf(lengths, count));
            int next = count;
            Check.equal("the last of " + count, x.dates(count - 1), 31);
            Check.indexRefused("one beyond " + count, () -> x.dates(next));
            for (int piece : NO_PIECES) {
                Check.indexRefused("piece " + piece, () -> x.dates(piece));
            }
        }
    }

    /** dates returns "the number of dates, 0 to 31": 0 and 30 are dates as any other. */
    private static void datesFrom0To31() {
        ChoirPlanner x = withLengths(10);
        Check.equal("on all", x.dates(0), 31);
        x.tell(0, 0, false);
        Check.equal("not on the first", x.dates(0), 30);
        x.tell(3, 30, false);
        Check.equal("nor on the last", x.dates(0), 29);
        for (int date = 1; date <= 29; date++) {
            x.tell(date % 4, date, false);
            Check.equal("nor on " + date, x.dates(0), 29 - date);
        }
        x.tell(3, 30, true);
        Check.equal("on the last alone", x.dates(0), 1);
        x.tell(0, 0, true);
        Check.equal("on the first too", x.dates(0), 2);
        Check.equal("nobody sings", withoutSingers().dates(0), 0);
    }

    private static ChoirPlanner withoutSingers() {
        ChoirPlanner x = new ChoirPlanner();
        x.chord(40, 30, 20, 10);
        x.addPiece(10);
        return x;
    }

    /** dates: "with some shift from -12 to 12". */
    private static void datesNeedAShiftOfAtMost12() {
        Check.equal("with 12", apartBy(12).dates(0), 31);
        Check.equal("with 13", apartBy(13).dates(0), 0);
        Check.equal("with -12", apartBy(-12).dates(0), 31);
        Check.equal("with -13", apartBy(-13).dates(0), 0);
    }

    /** missed, "date: 0 to 30". */
    private static void dateOfTheMissed() {
        ChoirPlanner x = choir();
        x.tell(0, 0, false);
        x.tell(1, 30, false);
        x.tell(2, 30, false);
        Check.equal("date 0", x.missed(0), 1);
        Check.equal("date 1", x.missed(1), 0);
        Check.equal("date 29", x.missed(29), 0);
        Check.equal("date 30", x.missed(30), 2);
        for (int date : NO_DATES) {
            Check.argumentRefused("date " + date, () -> x.missed(date));
        }
    }

    /** missed: "all who are not there and whose voice has nobody who is there", one there is enough. */
    private static void missedWhoseVoiceHasNobody() {
        ChoirPlanner x = new ChoirPlanner();
        for (int singer = 0; singer < 3; singer++) {
            x.addSinger(1, 0, 0);
        }
        x.addSinger(2, 0, 0);
        x.tell(0, 7, false);
        x.tell(1, 7, false);
        Check.equal("one of three there", x.missed(7), 0);
        x.tell(2, 7, false);
        Check.equal("none of three there", x.missed(7), 3);
        x.change(3, 1);
        Check.equal("one more there", x.missed(7), 0);
        x.tell(3, 7, false);
        Check.equal("none of four there", x.missed(7), 4);
        x.change(3, 0);
        Check.equal("nor of two voices", x.missed(7), 4);
        x.tell(3, 7, true);
        Check.equal("one of another voice there", x.missed(7), 3);
        x.tell(1, 7, true);
        Check.equal("one of the voice there", x.missed(7), 0);
        Check.equal("an empty range is no lack of singers", emptyRange().missed(0), 0);
    }

    private static ChoirPlanner emptyRange() {
        ChoirPlanner x = new ChoirPlanner();
        x.addSinger(0, 0, 0);
        x.addSinger(0, 60, 60);
        x.addSinger(0, 30, 30);
        x.tell(2, 0, false);
        return x;
    }

    /** missed returns "the number of singers": none of none, none of twelve, twelve of twelve. */
    private static void missedFrom0To12() {
        Check.equal("no singers", new ChoirPlanner().missed(0), 0);
        ChoirPlanner x = new ChoirPlanner();
        for (int singer = 0; singer < 12; singer++) {
            x.addSinger(singer % 4, 0, 60);
        }
        Check.equal("all there", x.missed(0), 0);
        for (int singer = 0; singer < 12; singer++) {
            x.tell(singer, 0, false);
            Check.equal("without 0 to " + singer, x.missed(0), singer < 8 ? 0 : 3 * (singer - 7));
        }
    }

    /** programme and duration, "date: 0 to 30". */
    private static void dateOfAProgramme() {
        ChoirPlanner x = withLengths(10);
        x.tell(0, 1, false);
        x.tell(0, 29, false);
        int[] dates = {0, 1, 29, 30};
        int[] sets = {1, 0, 0, 1};
        for (int i = 0; i < dates.length; i++) {
            Check.equal("programme on " + dates[i], x.programme(dates[i], 10), sets[i]);
            Check.equal("duration on " + dates[i], x.duration(dates[i], 10), 10 * sets[i]);
        }
        for (int date : NO_DATES) {
            Check.argumentRefused("programme on " + date, () -> x.programme(date, 10));
            Check.argumentRefused("duration on " + date, () -> x.duration(date, 10));
            Check.argumentRefused("programme on " + date + " of a wrong time", () -> x.programme(date, -1));
            Check.argumentRefused("duration on " + date + " of a wrong time", () -> x.duration(date, 20001));
        }
    }

    /** programme and duration, "seconds: the time, 0 to 20000". */
    private static void timeOfAProgramme() {
        ChoirPlanner x = withLengths(1, 3600, 3600, 3600, 3600, 3600);
        programme(x, 0, 0, 0);
        programme(x, 1, 1, 1);
        programme(x, 20000, 63, 18001);
        for (int seconds : NO_TIMES) {
            Check.argumentRefused("programme of " + seconds, () -> x.programme(0, seconds));
            Check.argumentRefused("duration of " + seconds, () -> x.duration(0, seconds));
        }
        ChoirPlanner nobody = new ChoirPlanner();
        for (int seconds : NO_TIMES) {
            Check.argumentRefused("programme of none", () -> nobody.programme(0, seconds));
            Check.argumentRefused("duration of none", () -> nobody.duration(0, seconds));
        }
        programme(nobody, 0, 0, 0);
        programme(nobody, 20000, 0, 0);
    }

    /** "so that their lengths together are at most a time": as long is right, longer by one is not. */
    private static void lengthsTogetherAtMostTheTime() {
        ChoirPlanner x = withLengths(3600, 100);
        programme(x, 99, 0, 0);
        programme(x, 100, 2, 100);
        programme(x, 101, 2, 100);
        programme(x, 3599, 2, 100);
        programme(x, 3600, 1, 3600);
        programme(x, 3699, 1, 3600);
        programme(x, 3700, 3, 3700);
        programme(x, 3701, 3, 3700);
        programme(withLengths(3600, 3600, 3600, 3600, 3600, 2000), 20000, 63, 20000);
        programme(withLengths(3600, 3600, 3600, 3600, 3600, 2001), 20000, 31, 18000);
        programme(withLengths(3600, 3600, 3600, 3600, 3600, 2001), 17999, 47, 16401);
    }

    /** "and as great as possible", ahead of how many pieces there are and of their numbers. */
    private static void asGreatAsPossible() {
        programme(withLengths(299, 100, 100, 100), 300, 14, 300);
        programme(withLengths(300, 99, 100, 100), 300, 1, 300);
        programme(withLengths(50, 50, 50, 50, 50, 251), 250, 31, 250);
        programme(withLengths(50, 50, 50, 50, 49, 250), 250, 32, 250);
        programme(withLengths(60, 50, 50), 100, 6, 100);
        programme(withLengths(10, 11), 20, 2, 11);
    }

    /** "of several such sets the one with the fewest pieces", ahead of their numbers. */
    private static void fewestPieces() {
        programme(withLengths(100, 200, 300), 300, 4, 300);
        programme(withLengths(50, 50, 50, 50, 50, 250), 250, 32, 250);
        programme(withLengths(10, 20, 30, 40, 50, 50), 100, 48, 100);
        programme(withLengths(30, 20, 10), 30, 1, 30);
    }

    /** "of those the one that has the lowest number among the pieces in which they differ". */
    private static void lowestNumberInWhichTheyDiffer() {
        programme(withLengths(100, 100), 100, 1, 100);
        programme(withLengths(100, 100, 100, 100, 100, 100), 500, 31, 500);
        programme(withLengths(100, 100, 100, 100, 100, 100), 300, 7, 300);
        programme(withLengths(1, 2, 3, 4), 5, 9, 5);
        programme(withLengths(2, 1, 4, 3), 5, 9, 5);
        programme(withLengths(4, 1, 2, 3), 5, 3, 5);
        programme(withLengths(9, 1, 2, 3, 4), 5, 18, 5);
        programme(withLengths(9, 1, 2, 3, 4), 14, 19, 14);
        programme(withLengths(9, 8, 1, 2, 2, 1), 3, 12, 3);
        programme(withLengths(9, 9, 9, 9, 7, 7), 7, 16, 7);
    }

    /** "On a date, pieces that have a shift on it are taken". */
    private static void piecesWithAShiftOnTheDate() {
        ChoirPlanner x = withLengths(100, 200);
        x.setTone(0, 0, 0, 60);
        programme(x, 300, 3, 300);
        x.setTone(0, 0, 3, 12);
        programme(x, 300, 2, 200);
        programme(x, 100, 0, 0);
        x.setTone(0, 0, 3, 16);
        programme(x, 300, 3, 300);
        x.tell(2, 0, false);
        programme(x, 300, 0, 0);
        Check.equal("on the next date", x.programme(1, 300), 3);
        Check.equal("as long", x.duration(1, 300), 300);
        for (int tones = 12; tones <= 13; tones++) {
            ChoirPlanner up = apartBy(tones);
            ChoirPlanner down = apartBy(-tones);
            programme(up, 10, 13 - tones, 130 - 10 * tones);
            programme(down, 10, 13 - tones, 130 - 10 * tones);
        }
    }

    /** A programme of no pieces is one: nothing fits, nothing can be sung, nothing is there. */
    private static void programmeOfNoPieces() {
        programme(new ChoirPlanner(), 20000, 0, 0);
        programme(withoutSingers(), 20000, 0, 0);
        programme(withLengths(10), 9, 0, 0);
        programme(withLengths(10), 0, 0, 0);
        programme(withLengths(1, 1, 1, 1, 1, 1), 0, 0, 0);
        ChoirPlanner draft = choir();
        draft.chord(47, 37, 27, 17);
        programme(draft, 20000, 0, 0);
    }

    /** programme returns "the sum of 2 to the power of the number of each": 0 to 63. */
    private static void programmeOfSixPieces() {
        int[] lengths = {1, 2, 4, 8, 16, 32};
        for (int count = 1; count <= 6; count++) {
            ChoirPlanner x = withLengths(java.util.Arrays.copyOf(lengths, count));
            for (int seconds = 0; seconds < 1 << count; seconds++) {
                programme(x, seconds, seconds, seconds);
            }
            programme(x, 1 << count, (1 << count) - 1, (1 << count) - 1);
        }
    }
}
