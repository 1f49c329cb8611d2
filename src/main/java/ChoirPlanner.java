/**
 * A choir that arranges part songs in four voices, keeps a roster of its singers, and plans its programmes.
 * The promises that it keeps stand in DOC.md; the numbers in the comments below are theirs.
 */
public final class ChoirPlanner {
    private static final int VOICES = 4;
    private static final int HIGHEST_TONE = 60;
    private static final int DATES = 31;
    private static final int MOST_SINGERS = 12;
    private static final int MOST_PIECES = 6;
    private static final int MOST_CHORDS = 16;
    private static final int MOST_SECONDS_OF_PIECE = 3600;
    private static final int MOST_SECONDS_OF_PROGRAMME = 20000;
    private static final int MOST_TIMES = 30;
    private static final int WIDEST_SHIFT = 12;
    /** Stands for a shift where there is none; no shift is as great as this. */
    private static final int NO_SHIFT = WIDEST_SHIFT + 1;

    private final Roster roster;
    private final Piece[] pieces;
    private int pieceCount;
    private Piece draft;

    /** Promise 1. */
    public ChoirPlanner() {
        roster = new Roster();
        pieces = new Piece[MOST_PIECES];
        draft = new Piece();
    }

    // ---- singers

    /** Promise 2. */
    public int addSinger(int voice, int lowest, int highest)
            throws IllegalArgumentException, IllegalStateException {
        checkVoice(voice);
        checkTone(lowest, HIGHEST_TONE);
        checkTone(highest, HIGHEST_TONE);
        if (highest < lowest) {
            throw new IllegalArgumentException("the highest tone is below the lowest one");
        }
        if (roster.isFull()) {
            throw new IllegalStateException("there are 12 singers");
        }
        return roster.add(voice, lowest, highest);
    }

    /** Promise 3. */
    public boolean tell(int singer, int date, boolean there)
            throws IndexOutOfBoundsException, IllegalArgumentException {
        checkSinger(singer);
        checkDate(date);
        boolean before = roster.isThere(singer, date);
        roster.putThere(singer, date, there);
        return before;
    }

    /** Promise 4. */
    public int change(int singer, int voice)
            throws IndexOutOfBoundsException, IllegalArgumentException {
        checkSinger(singer);
        checkVoice(voice);
        return roster.replaceVoice(singer, voice);
    }

    /** Promise 5. */
    public int range(int voice, int date) throws IllegalArgumentException {
        checkVoice(voice);
        checkDate(date);
        int first = roster.firstTone(voice, date);
        int last = roster.lastTone(voice, date);
        return first > last ? -1 : 100 * first + last;
    }

    // ---- pieces

    /** Promise 6. */
    public int chord(int first, int second, int third, int fourth)
            throws IllegalArgumentException, IllegalStateException {
        checkTone(first, HIGHEST_TONE);
        checkTone(second, first);
        checkTone(third, second);
        checkTone(fourth, third);
        if (draft.isFull()) {
            throw new IllegalStateException("the draft has 16 chords");
        }
        return draft.append(first, second, third, fourth);
    }

    /** Promise 7. */
    public int addPiece(int seconds) throws IllegalArgumentException, IllegalStateException {
        if (seconds < 1 || seconds > MOST_SECONDS_OF_PIECE) {
            throw new IllegalArgumentException("the length is out of range");
        }
        if (draft.isEmpty()) {
            throw new IllegalStateException("the draft is empty");
        }
        if (pieceCount >= MOST_PIECES) {
            throw new IllegalStateException("there are 6 pieces");
        }
        int number = pieceCount;
        draft.putLength(seconds);
        pieces[number] = draft;
        pieceCount++;
        draft = new Piece();
        return number;
    }

    /** Promise 8. */
    public int setTone(int piece, int chord, int voice, int tone)
            throws IndexOutOfBoundsException, IllegalArgumentException, IllegalStateException {
        Piece changed = pieceAt(piece);
        checkChord(changed, chord);
        checkVoice(voice);
        checkTone(tone, HIGHEST_TONE);
        if (tone > changed.ceiling(chord, voice) || tone < changed.floor(chord, voice)) {
            throw new IllegalStateException("the voices would cross");
        }
        int before = changed.toneAt(chord, voice);
        changed.putTone(chord, voice, tone);
        return before;
    }

    /** Promise 9. */
    public int faultsAt(int piece, int chord) throws IndexOutOfBoundsException {
        Piece asked = pieceAt(piece);
        checkChord(asked, chord);
        return asked.faultsInto(chord);
    }

    /** Promise 10. */
    public int faults(int piece) throws IndexOutOfBoundsException {
        return pieceAt(piece).faultSum();
    }

    /** Promise 11. */
    public int leastFaults(int piece, int chord, int voice)
            throws IndexOutOfBoundsException, IllegalArgumentException {
        Piece asked = pieceAt(piece);
        checkChord(asked, chord);
        if (chord == 0 || asked.isLast(chord)) {
            throw new IndexOutOfBoundsException("the chord is the first or the last one");
        }
        checkVoice(voice);
        return asked.leastFaultSum(chord, voice);
    }

    // ---- dates

    /** Promise 12. */
    public int shift(int piece, int date)
            throws IndexOutOfBoundsException, IllegalArgumentException, IllegalStateException {
        Piece asked = pieceAt(piece);
        checkDate(date);
        int nearest = nearestShift(asked, date);
        if (nearest == NO_SHIFT) {
            throw new IllegalStateException("the piece cannot be sung with any shift");
        }
        return nearest;
    }

    /** Promise 13. */
    public int dates(int piece) throws IndexOutOfBoundsException {
        Piece asked = pieceAt(piece);
        int count = 0;
        for (int date = 0; date < DATES; date++) {
            if (nearestShift(asked, date) != NO_SHIFT) {
                count++;
            }
        }
        return count;
    }

    /** Promise 14. */
    public int missed(int date) throws IllegalArgumentException {
        checkDate(date);
        return roster.countMissed(date);
    }

    /** Promise 15. */
    public int programme(int date, int seconds) throws IllegalArgumentException {
        checkDate(date);
        checkTime(seconds);
        return bestSet(date, seconds);
    }

    /** Promise 16. */
    public int duration(int date, int seconds) throws IllegalArgumentException {
        checkDate(date);
        checkTime(seconds);
        return lengthOf(bestSet(date, seconds));
    }

    // ---- rehearsals

    /** Promise 17. */
    public int rehearse(int piece, int times)
            throws IndexOutOfBoundsException, IllegalArgumentException {
        Piece rehearsed = pieceAt(piece);
        if (times < 1 || times > MOST_TIMES) {
            throw new IllegalArgumentException("the number of times is out of range");
        }
        for (int time = 0; time < times; time++) {
            rehearsed.practiseWeakest();
        }
        return rehearsed.weaknessSum();
    }

    /** Promise 18. */
    public int weakness(int piece, int chord) throws IndexOutOfBoundsException {
        Piece asked = pieceAt(piece);
        checkChord(asked, chord);
        return asked.weaknessOf(chord);
    }

    /** Promise 19. */
    public int weakest(int piece) throws IndexOutOfBoundsException {
        return pieceAt(piece).weakestChord();
    }

    // ---- what the calls are checked by

    private static void checkVoice(int voice) {
        if (voice < 0 || voice >= VOICES) {
            throw new IllegalArgumentException("the voice is out of range");
        }
    }

    private static void checkTone(int tone, int highest) {
        if (tone < 0 || tone > highest) {
            throw new IllegalArgumentException("the tone is out of range");
        }
    }

    private static void checkDate(int date) {
        if (date < 0 || date >= DATES) {
            throw new IllegalArgumentException("the date is out of range");
        }
    }

    private static void checkTime(int seconds) {
        if (seconds < 0 || seconds > MOST_SECONDS_OF_PROGRAMME) {
            throw new IllegalArgumentException("the time is out of range");
        }
    }

    private void checkSinger(int singer) {
        if (!roster.has(singer)) {
            throw new IndexOutOfBoundsException("there is no such singer");
        }
    }

    private static void checkChord(Piece piece, int chord) {
        if (!piece.has(chord)) {
            throw new IndexOutOfBoundsException("there is no such chord");
        }
    }

    private Piece pieceAt(int number) {
        Piece found = number >= 0 && number < pieceCount ? pieces[number] : null;
        if (found == null) {
            throw new IndexOutOfBoundsException("there is no such piece");
        }
        return found;
    }

    // ---- transposing

    /**
     * The shifts with which each voice stays in its range lie side by side, so those for all voices do too:
     * never are two of them equally near to 0 without 0 being one of them.
     */
    private int nearestShift(Piece piece, int date) {
        int lowest = -WIDEST_SHIFT;
        int highest = WIDEST_SHIFT;
        for (int voice = 0; voice < VOICES; voice++) {
            lowest = Math.max(lowest, roster.firstTone(voice, date) - piece.lowestTone(voice));
            highest = Math.min(highest, roster.lastTone(voice, date) - piece.highestTone(voice));
        }
        return lowest > highest ? NO_SHIFT : Math.max(lowest, Math.min(highest, 0));
    }

    // ---- programmes: a set of pieces is a number whose bits stand for the pieces

    private int bestSet(int date, int seconds) {
        int singable = singableSet(date);
        int best = 0;
        for (int set = 1; set < 1 << pieceCount; set++) {
            if ((set & ~singable) == 0 && lengthOf(set) <= seconds && isBetter(set, best)) {
                best = set;
            }
        }
        return best;
    }

    private int singableSet(int date) {
        int set = 0;
        for (int number = 0; number < pieceCount; number++) {
            if (nearestShift(pieceAt(number), date) != NO_SHIFT) {
                set |= 1 << number;
            }
        }
        return set;
    }

    private int lengthOf(int set) {
        int sum = 0;
        for (int number = 0; number < pieceCount; number++) {
            if ((set >> number & 1) != 0) {
                sum += pieceAt(number).length();
            }
        }
        return sum;
    }

    private boolean isBetter(int set, int other) {
        int longer = lengthOf(set) - lengthOf(other);
        if (longer != 0) {
            return longer > 0;
        }
        int more = Integer.bitCount(set) - Integer.bitCount(other);
        if (more != 0) {
            return more < 0;
        }
        int differing = set ^ other;
        int lowestDiffering = differing & -differing;
        return (set & lowestDiffering) != 0;
    }

    /** The singers by their numbers. Its callers ask has() before they name a singer, and isFull() before they add one. */
    private static final class Roster {
        private final int[] voices = new int[MOST_SINGERS];
        private final int[] lowest = new int[MOST_SINGERS];
        private final int[] highest = new int[MOST_SINGERS];
        /** The bit d tells whether the singer is missing on the date d: the 31 dates go into one number. */
        private final int[] away = new int[MOST_SINGERS];
        private int size;

        boolean isFull() {
            return size >= MOST_SINGERS;
        }

        boolean has(int singer) {
            return singer >= 0 && singer < size;
        }

        int add(int voice, int lowestTone, int highestTone) {
            int singer = size;
            voices[singer] = voice;
            lowest[singer] = lowestTone;
            highest[singer] = highestTone;
            size++;
            return singer;
        }

        int replaceVoice(int singer, int voice) {
            int before = voices[singer];
            voices[singer] = voice;
            return before;
        }

        boolean isThere(int singer, int date) {
            return (away[singer] >> date & 1) == 0;
        }

        void putThere(int singer, int date, boolean there) {
            int bit = 1 << date;
            away[singer] = there ? away[singer] & ~bit : away[singer] | bit;
        }

        /** The first tone of the range, 0 if nobody is there. */
        int firstTone(int voice, int date) {
            int first = 0;
            for (int singer = 0; singer < size; singer++) {
                if (sings(singer, voice, date)) {
                    first = Math.max(first, lowest[singer]);
                }
            }
            return first;
        }

        /** The last tone of the range, -1 if nobody is there: the range is empty then as any other empty one. */
        int lastTone(int voice, int date) {
            int last = -1;
            for (int singer = 0; singer < size; singer++) {
                if (sings(singer, voice, date)) {
                    last = last < 0 ? highest[singer] : Math.min(last, highest[singer]);
                }
            }
            return last;
        }

        int countMissed(int date) {
            int count = 0;
            for (int singer = 0; singer < size; singer++) {
                if (!isThere(singer, date) && lastTone(voices[singer], date) < 0) {
                    count++;
                }
            }
            return count;
        }

        private boolean sings(int singer, int voice, int date) {
            return voices[singer] == voice && isThere(singer, date);
        }
    }

    /**
     * A row of chords with its length and the practice of each chord; the draft is one whose length is not told yet.
     * Its callers ask has() before they name a chord, and isFull() before they append one.
     */
    private static final class Piece {
        private static final int OCTAVE = 12;
        private static final int FIFTH = 7;
        private static final int WIDEST_STEP = 7;
        private static final int FAULTS_OF_PARALLEL = 3;
        private static final int FAULTS_OF_LEAP = 1;
        private static final int WEAKNESS_AT_FIRST = 10;
        private static final int WEAKNESS_OF_FAULT = 5;
        private static final int PRACTICE_OF_REHEARSAL = 4;

        private final int[] tones = new int[VOICES * MOST_CHORDS];
        private final int[] practice = new int[MOST_CHORDS];
        /** The faults of the move that leads to each chord, kept since rehearsals ask for them again and again. */
        private final int[] moveFaults = new int[MOST_CHORDS];
        private int size;
        private int seconds;

        boolean isEmpty() {
            return size == 0;
        }

        boolean isFull() {
            return size >= MOST_CHORDS;
        }

        boolean has(int chord) {
            return chord >= 0 && chord < size;
        }

        boolean isLast(int chord) {
            return chord == size - 1;
        }

        int length() {
            return seconds;
        }

        void putLength(int length) {
            seconds = length;
        }

        int append(int first, int second, int third, int fourth) {
            int start = VOICES * size;
            tones[start] = first;
            tones[start + 1] = second;
            tones[start + 2] = third;
            tones[start + 3] = fourth;
            size++;
            countMoveFaults(size - 1);
            return size;
        }

        int toneAt(int chord, int voice) {
            return tones[VOICES * chord + voice];
        }

        void putTone(int chord, int voice, int tone) {
            tones[VOICES * chord + voice] = tone;
            countMoveFaults(chord);
            countMoveFaults(chord + 1);
        }

        /** The highest tone that a voice may have in a chord beside the others. */
        int ceiling(int chord, int voice) {
            return voice > 0 ? toneAt(chord, voice - 1) : HIGHEST_TONE;
        }

        /** The lowest tone that a voice may have in a chord beside the others. */
        int floor(int chord, int voice) {
            return voice < VOICES - 1 ? toneAt(chord, voice + 1) : 0;
        }

        int lowestTone(int voice) {
            int lowest = HIGHEST_TONE;
            for (int chord = 0; chord < size; chord++) {
                lowest = Math.min(lowest, toneAt(chord, voice));
            }
            return lowest;
        }

        int highestTone(int voice) {
            int highest = 0;
            for (int chord = 0; chord < size; chord++) {
                highest = Math.max(highest, toneAt(chord, voice));
            }
            return highest;
        }

        int faultsInto(int chord) {
            return moveFaults[chord];
        }

        int faultSum() {
            int sum = 0;
            for (int chord = 1; chord < size; chord++) {
                sum += moveFaults[chord];
            }
            return sum;
        }

        /** Tries each tone in its place and puts the old one back. */
        int leastFaultSum(int chord, int voice) {
            int before = toneAt(chord, voice);
            int ceiling = ceiling(chord, voice);
            int least = faultSum();
            for (int tone = floor(chord, voice); tone <= ceiling; tone++) {
                putTone(chord, voice, tone);
                least = Math.min(least, faultSum());
            }
            putTone(chord, voice, before);
            return least;
        }

        int weaknessOf(int chord) {
            return Math.max(0, WEAKNESS_AT_FIRST + WEAKNESS_OF_FAULT * moveFaults[chord] - practice[chord]);
        }

        int weaknessSum() {
            int sum = 0;
            for (int chord = 0; chord < size; chord++) {
                sum += weaknessOf(chord);
            }
            return sum;
        }

        int weakestChord() {
            int weakest = 0;
            for (int chord = 1; chord < size; chord++) {
                if (weaknessOf(chord) > weaknessOf(weakest)) {
                    weakest = chord;
                }
            }
            return weakest;
        }

        void practiseWeakest() {
            practice[weakestChord()] += PRACTICE_OF_REHEARSAL;
        }

        /** No move leads to the first chord, and none from the last one. */
        private void countMoveFaults(int chord) {
            if (chord < 1 || chord >= size) {
                return;
            }
            int sum = 0;
            for (int voice = 0; voice < VOICES; voice++) {
                if (Math.abs(stepInto(chord, voice)) > WIDEST_STEP) {
                    sum += FAULTS_OF_LEAP;
                }
                for (int lower = voice + 1; lower < VOICES; lower++) {
                    if (isParallel(chord, voice, lower)) {
                        sum += FAULTS_OF_PARALLEL;
                    }
                }
            }
            moveFaults[chord] = sum;
        }

        private int stepInto(int chord, int voice) {
            return toneAt(chord, voice) - toneAt(chord - 1, voice);
        }

        /** Voices never cross, so their interval stays the same only where both go by the same step. */
        private boolean isParallel(int chord, int upper, int lower) {
            int step = stepInto(chord, upper);
            return step != 0 && step == stepInto(chord, lower)
                    && isTold(toneAt(chord, upper) - toneAt(chord, lower));
        }

        /** With octaves taken away, down to 12 or less, 0 and 12 are left of just the multiples of 12. */
        private static boolean isTold(int interval) {
            int rest = interval % OCTAVE;
            return rest == 0 || rest == FIFTH;
        }
    }
}
