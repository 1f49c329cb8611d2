/** Promises 12 to 16: shift, dates, missed, programme, duration. */
final class DatesTest {
    private static final int[] WRONG_PIECES = {-1, 1, 6, Integer.MIN_VALUE, Integer.MAX_VALUE};
    private static final int[] WRONG_DATES = {-1, 31, Integer.MIN_VALUE, Integer.MAX_VALUE};

    private DatesTest() {
    }

    public static void main(String[] args) {
        shiftOfOneVoice();
        eachShift();
        shiftAtTheEndsOfTones();
        shiftOfSixteenChords();
        shiftOfAllChords();
        shiftOfAllVoices();
        shiftWithoutSingers();
        shiftRefuses();
        dates();
        missed();
        missedOfTwelve();
        missedRefuses();
        programmeIsAsLongAsPossible();
        programmeHasFewestPieces();
        programmeHasLowestNumber();
        programmeHasPiecesWithAShift();
        programmeRefuses();
        Check.end("DatesTest");
    }

    /** A choir whose voices can each sing 15 tones, from 40, 30, 20 and 10 on. */
    private static ChoirPlanner choir() {
        ChoirPlanner x = new ChoirPlanner();
        for (int voice = 0; voice < 4; voice++) {
            x.addSinger(voice, 40 - 10 * voice, 54 - 10 * voice);
        }
        return x;
    }

    /** A choir that can sing all its pieces, which have the given lengths. */
    private static ChoirPlanner withLengths(int... lengths) {
        ChoirPlanner x = choir();
        for (int seconds : lengths) {
            x.chord(47, 37, 27, 17);
            x.addPiece(seconds);
        }
        return x;
    }

    private static void shiftOfOneVoice() {
        ChoirPlanner x = new ChoirPlanner();
        x.addSinger(0, 30, 32);
        for (int voice = 1; voice < 4; voice++) {
            x.addSinger(voice, 0, 60);
        }
        x.chord(31, 15, 15, 15);
        x.addPiece(10);
        int[] tones = {32, 31, 30, 29, 33, 18, 44};
        int[] shifts = {0, 0, 0, 1, -1, 12, -12};
        for (int i = 0; i < tones.length; i++) {
            x.setTone(0, 0, 0, tones[i]);
            Check.equal("shift of tone " + tones[i], x.shift(0, 0), shifts[i]);
            Check.equal("dates of tone " + tones[i], x.dates(0), 31);
        }
        int[] tooFar = {17, 45, 60};
        for (int tone : tooFar) {
            x.setTone(0, 0, 0, tone);
            Check.stateRefused("shift of tone " + tone, () -> x.shift(0, 0));
            Check.equal("dates of tone " + tone, x.dates(0), 0);
        }
    }

    private static void eachShift() {
        for (int shift = -12; shift <= 12; shift++) {
            ChoirPlanner x = new ChoirPlanner();
            for (int voice = 0; voice < 4; voice++) {
                x.addSinger(voice, 40 - 5 * voice, 40 - 5 * voice);
            }
            x.chord(40 - shift, 35 - shift, 30 - shift, 25 - shift);
            x.addPiece(10);
            Check.equal("the only shift", x.shift(0, 0), shift);
            Check.equal("dates with the only shift", x.dates(0), 31);
            Check.equal("programme with the only shift", x.programme(0, 10), 1);
        }
    }

    private static void shiftAtTheEndsOfTones() {
        int[] ends = {0, 60};
        for (int tone : ends) {
            ChoirPlanner x = new ChoirPlanner();
            for (int voice = 0; voice < 4; voice++) {
                x.addSinger(voice, tone, tone);
            }
            x.chord(tone, tone, tone, tone);
            x.addPiece(10);
            Check.equal("all voices at " + tone, x.shift(0, 0), 0);
            x.chord(30, 30, 30, 30);
            x.addPiece(10);
            Check.stateRefused("30 tones away", () -> x.shift(1, 0));
        }
    }

    private static void shiftOfSixteenChords() {
        ChoirPlanner x = choir();
        for (int chord = 0; chord < 15; chord++) {
            x.chord(47, 37, 27, 17);
        }
        x.chord(56, 37, 27, 17);
        x.addPiece(10);
        Check.equal("down by the last chord", x.shift(0, 0), -2);
        x.setTone(0, 15, 0, 38);
        Check.equal("up by the last chord", x.shift(0, 0), 2);
        Check.equal("on all dates", x.dates(0), 31);
    }

    private static void shiftOfAllChords() {
        ChoirPlanner x = choir();
        x.chord(50, 37, 27, 17);
        x.chord(36, 36, 27, 17);
        x.addPiece(10);
        Check.equal("14 tones between fit just so", x.shift(0, 0), 4);
        x.setTone(0, 0, 0, 51);
        Check.stateRefused("15 tones between do not", () -> x.shift(0, 0));
        x.setTone(0, 0, 0, 49);
        Check.equal("13 between: the nearer of two", x.shift(0, 0), 4);
        x.setTone(0, 0, 0, 58);
        x.setTone(0, 1, 0, 46);
        Check.equal("down by the last chord's voice", x.shift(0, 0), -4);
    }

    private static void shiftOfAllVoices() {
        for (int voice = 0; voice < 4; voice++) {
            ChoirPlanner x = choir();
            x.chord(47, 37, 27, 17);
            x.chord(47, 37, 27, 17);
            x.addPiece(10);
            x.setTone(0, 0, voice, 55 - 10 * voice);
            Check.equal("down for voice " + voice, x.shift(0, 0), -1);
            x.setTone(0, 0, voice, 38 - 10 * voice);
            Check.equal("up for voice " + voice, x.shift(0, 0), 2);
            int other = voice == 3 ? 2 : voice + 1;
            x.setTone(0, 1, other, 55 - 10 * other);
            Check.stateRefused("up for one, down for another", () -> x.shift(0, 0));
        }
    }

    private static void shiftWithoutSingers() {
        for (int voice = 0; voice < 4; voice++) {
            ChoirPlanner x = withLengths(10);
            x.tell(voice, 9, false);
            Check.stateRefused("voice " + voice + " lacks", () -> x.shift(0, 9));
            Check.equal("on another date", x.shift(0, 10), 0);
            x.addSinger(voice, 0, 41 - 10 * voice);
            Check.equal("another singer alone", x.shift(0, 9), -6);
            Check.equal("both singers", x.shift(0, 10), -6);
            x.addSinger(voice, 60, 60);
            Check.stateRefused("no tone in common", () -> x.shift(0, 9));
        }
        ChoirPlanner y = choir();
        y.chord(0, 0, 0, 0);
        y.addPiece(10);
        for (int singer = 0; singer < 4; singer++) {
            y.change(singer, 3);
        }
        Check.stateRefused("three voices without singers", () -> y.shift(0, 0));
    }

    private static void shiftRefuses() {
        ChoirPlanner x = withLengths(10);
        for (int piece : WRONG_PIECES) {
            Check.indexRefused("shift of piece " + piece, () -> x.shift(piece, 99));
            Check.indexRefused("dates of piece " + piece, () -> x.dates(piece));
        }
        for (int date : WRONG_DATES) {
            Check.argumentRefused("date " + date, () -> x.shift(0, date));
        }
        Check.equal("date 30 is one", x.shift(0, 30), 0);
        ChoirPlanner unsung = new ChoirPlanner();
        unsung.chord(47, 37, 27, 17);
        unsung.addPiece(10);
        Check.argumentRefused("a wrong date comes before no shift", () -> unsung.shift(0, 31));
        Check.stateRefused("nobody sings", () -> unsung.shift(0, 0));
    }

    private static void dates() {
        ChoirPlanner x = withLengths(10, 20);
        Check.equal("all dates", x.dates(0), 31);
        x.tell(0, 0, false);
        x.tell(1, 30, false);
        x.tell(2, 30, false);
        Check.equal("without the first and the last date", x.dates(0), 29);
        Check.equal("for the other piece too", x.dates(1), 29);
        x.setTone(1, 0, 0, 60);
        x.setTone(1, 0, 3, 0);
        Check.equal("with no shift at all", x.dates(1), 0);
        for (int date = 0; date <= 30; date++) {
            x.tell(3, date, false);
        }
        Check.equal("nobody in the lowest voice", x.dates(0), 0);
    }

    private static void missed() {
        ChoirPlanner x = new ChoirPlanner();
        x.addSinger(0, 10, 20);
        x.addSinger(0, 30, 40);
        x.addSinger(0, 10, 20);
        x.addSinger(2, 10, 20);
        Check.equal("all there", x.missed(8), 0);
        x.tell(0, 8, false);
        x.tell(1, 8, false);
        Check.equal("one of the voice is there", x.missed(8), 0);
        x.tell(2, 8, false);
        Check.equal("nobody of the voice is there", x.missed(8), 3);
        Check.equal("on another date", x.missed(9), 0);
        x.tell(3, 8, false);
        Check.equal("two voices", x.missed(8), 4);
        x.change(3, 0);
        Check.equal("four of one voice", x.missed(8), 4);
        x.tell(3, 8, true);
        Check.equal("the changed one is there", x.missed(8), 0);
        x.change(3, 1);
        Check.equal("but not in that voice", x.missed(8), 3);
        x.addSinger(0, 0, 0);
        Check.equal("a new one is there", x.missed(8), 0);
    }

    private static void missedOfTwelve() {
        ChoirPlanner x = new ChoirPlanner();
        for (int singer = 0; singer < 12; singer++) {
            x.addSinger(singer / 6, 10, 20);
        }
        Check.equal("twelve there", x.missed(0), 0);
        for (int singer = 0; singer < 12; singer++) {
            x.tell(singer, 0, false);
            Check.equal("missed after " + singer, x.missed(0), singer < 5 ? 0 : singer < 11 ? 6 : 12);
        }
    }

    private static void missedRefuses() {
        ChoirPlanner x = new ChoirPlanner();
        for (int date : WRONG_DATES) {
            Check.argumentRefused("missed on date " + date, () -> x.missed(date));
        }
        Check.equal("date 30 is one", x.missed(30), 0);
    }

    private static void programme(ChoirPlanner x, int seconds, int set, int duration) {
        Check.equal("programme of " + seconds, x.programme(0, seconds), set);
        Check.equal("duration of " + seconds, x.duration(0, seconds), duration);
    }

    private static void programmeIsAsLongAsPossible() {
        ChoirPlanner x = withLengths(100, 250, 400);
        programme(x, 0, 0, 0);
        programme(x, 99, 0, 0);
        programme(x, 100, 1, 100);
        programme(x, 349, 2, 250);
        programme(x, 350, 3, 350);
        programme(x, 400, 4, 400);
        programme(x, 649, 5, 500);
        programme(x, 650, 6, 650);
        programme(x, 749, 6, 650);
        programme(x, 750, 7, 750);
        programme(x, 20000, 7, 750);
        ChoirPlanner longest = withLengths(3600, 3600, 3600, 3600, 3600, 3600);
        programme(longest, 20000, 31, 18000);
        programme(longest, 17999, 15, 14400);
        ChoirPlanner all = withLengths(1, 1, 1, 1, 1, 3600);
        programme(all, 20000, 63, 3605);
    }

    private static void programmeHasFewestPieces() {
        programme(withLengths(100, 200, 300), 300, 4, 300);
        programme(withLengths(300, 200, 100), 300, 1, 300);
        programme(withLengths(100, 100, 100, 150, 150), 300, 24, 300);
        programme(withLengths(10, 20, 30, 60), 60, 8, 60);
    }

    private static void programmeHasLowestNumber() {
        programme(withLengths(100, 100, 100), 100, 1, 100);
        programme(withLengths(100, 100, 100), 200, 3, 200);
        programme(withLengths(100, 200, 200, 100), 300, 3, 300);
        programme(withLengths(100, 200, 300, 400), 500, 9, 500);
        programme(withLengths(200, 300, 100, 400), 500, 3, 500);
        programme(withLengths(50, 100, 200, 300, 400), 500, 18, 500);
        programme(withLengths(2, 3, 1, 2, 1), 6, 7, 6);
    }

    private static void programmeHasPiecesWithAShift() {
        ChoirPlanner x = withLengths(100, 200, 400);
        x.setTone(1, 0, 0, 60);
        x.setTone(1, 0, 3, 0);
        programme(x, 700, 5, 500);
        programme(x, 399, 1, 100);
        x.setTone(0, 0, 0, 50);
        x.setTone(0, 0, 1, 50);
        programme(x, 700, 5, 500);
        x.setTone(0, 0, 1, 37);
        x.tell(3, 0, false);
        programme(x, 700, 0, 0);
        Check.equal("on another date", x.programme(30, 700), 5);
        Check.equal("that long", x.duration(30, 700), 500);
    }

    private static void programmeRefuses() {
        ChoirPlanner x = withLengths(100);
        for (int date : WRONG_DATES) {
            Check.argumentRefused("programme on date " + date, () -> x.programme(date, 100));
            Check.argumentRefused("duration on date " + date, () -> x.duration(date, 100));
        }
        int[] wrongTimes = {-1, 20001, Integer.MIN_VALUE, Integer.MAX_VALUE};
        for (int seconds : wrongTimes) {
            Check.argumentRefused("programme of " + seconds, () -> x.programme(0, seconds));
            Check.argumentRefused("duration of " + seconds, () -> x.duration(0, seconds));
        }
    }
}
