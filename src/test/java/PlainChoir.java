import java.util.ArrayList;
import java.util.List;

/**
 * The document's words once more, each followed as it is written and without any thought for speed,
 * so that PlainChoirTest can compare. Every method tells its answer, or one of the codes below for an exception.
 */
final class PlainChoir {
    static final int INDEX = 1000001;
    static final int ARGUMENT = 1000002;
    static final int STATE = 1000003;

    private static final class Singer {
        int voice;
        int lowest;
        int highest;
        boolean[] there = new boolean[31];
    }

    private static final class Song {
        List<int[]> chords = new ArrayList<>();
        List<Integer> practice = new ArrayList<>();
        int seconds;
    }

    private final List<Singer> singers = new ArrayList<>();
    private final List<Song> songs = new ArrayList<>();
    private List<int[]> draft = new ArrayList<>();

    private static boolean within(int number, int first, int last) {
        return first <= number && number <= last;
    }

    private boolean noSong(int piece) {
        return !within(piece, 0, songs.size() - 1);
    }

    private boolean noChord(int piece, int chord) {
        return noSong(piece) || !within(chord, 0, songs.get(piece).chords.size() - 1);
    }

    int addSinger(int voice, int lowest, int highest) {
        if (!within(voice, 0, 3) || !within(lowest, 0, 60) || !within(highest, lowest, 60)) {
            return ARGUMENT;
        }
        if (singers.size() == 12) {
            return STATE;
        }
        Singer singer = new Singer();
        singer.voice = voice;
        singer.lowest = lowest;
        singer.highest = highest;
        java.util.Arrays.fill(singer.there, true);
        singers.add(singer);
        return singers.size() - 1;
    }

    int tell(int singer, int date, boolean there) {
        if (!within(singer, 0, singers.size() - 1)) {
            return INDEX;
        }
        if (!within(date, 0, 30)) {
            return ARGUMENT;
        }
        boolean before = singers.get(singer).there[date];
        singers.get(singer).there[date] = there;
        return before ? 1 : 0;
    }

    int change(int singer, int voice) {
        if (!within(singer, 0, singers.size() - 1)) {
            return INDEX;
        }
        if (!within(voice, 0, 3)) {
            return ARGUMENT;
        }
        int before = singers.get(singer).voice;
        singers.get(singer).voice = voice;
        return before;
    }

    private List<Singer> present(int voice, int date) {
        List<Singer> present = new ArrayList<>();
        for (Singer singer : singers) {
            if (singer.voice == voice && singer.there[date]) {
                present.add(singer);
            }
        }
        return present;
    }

    private boolean inRange(int tone, int voice, int date) {
        List<Singer> present = present(voice, date);
        for (Singer singer : present) {
            if (!within(tone, singer.lowest, singer.highest)) {
                return false;
            }
        }
        return !present.isEmpty();
    }

    int range(int voice, int date) {
        if (!within(voice, 0, 3) || !within(date, 0, 30)) {
            return ARGUMENT;
        }
        int first = -1;
        int last = -1;
        for (int tone = 60; tone >= 0; tone--) {
            if (inRange(tone, voice, date)) {
                first = tone;
                last = Math.max(last, tone);
            }
        }
        return first < 0 ? -1 : 100 * first + last;
    }

    int chord(int first, int second, int third, int fourth) {
        if (!within(first, 0, 60) || !within(second, 0, first) || !within(third, 0, second) || !within(fourth, 0, third)) {
            return ARGUMENT;
        }
        if (draft.size() == 16) {
            return STATE;
        }
        draft.add(new int[] {first, second, third, fourth});
        return draft.size();
    }

    int addPiece(int seconds) {
        if (!within(seconds, 1, 3600)) {
            return ARGUMENT;
        }
        if (draft.isEmpty() || songs.size() == 6) {
            return STATE;
        }
        Song song = new Song();
        song.chords = draft;
        song.seconds = seconds;
        for (int i = 0; i < draft.size(); i++) {
            song.practice.add(0);
        }
        draft = new ArrayList<>();
        songs.add(song);
        return songs.size() - 1;
    }

    private static boolean isOrdered(int[] chord) {
        return 60 >= chord[0] && chord[0] >= chord[1] && chord[1] >= chord[2] && chord[2] >= chord[3] && chord[3] >= 0;
    }

    int setTone(int piece, int chord, int voice, int tone) {
        if (noChord(piece, chord)) {
            return INDEX;
        }
        if (!within(voice, 0, 3) || !within(tone, 0, 60)) {
            return ARGUMENT;
        }
        int[] changed = songs.get(piece).chords.get(chord).clone();
        int before = changed[voice];
        changed[voice] = tone;
        if (!isOrdered(changed)) {
            return STATE;
        }
        songs.get(piece).chords.set(chord, changed);
        return before;
    }

    private static int faultsOfMove(int[] from, int[] to) {
        int faults = 0;
        for (int a = 0; a < 4; a++) {
            faults += to[a] - from[a] > 7 || from[a] - to[a] > 7 ? 1 : 0;
            for (int b = a + 1; b < 4; b++) {
                boolean bothUp = to[a] > from[a] && to[b] > from[b];
                boolean bothDown = to[a] < from[a] && to[b] < from[b];
                int interval = from[a] - from[b];
                boolean same = interval == to[a] - to[b];
                while (interval > 12) {
                    interval -= 12;
                }
                boolean told = interval == 0 || interval == 7 || interval == 12;
                faults += (bothUp || bothDown) && same && told ? 3 : 0;
            }
        }
        return faults;
    }

    private static int faultsOf(List<int[]> chords) {
        int sum = 0;
        for (int i = 1; i < chords.size(); i++) {
            sum += faultsOfMove(chords.get(i - 1), chords.get(i));
        }
        return sum;
    }

    int faultsAt(int piece, int chord) {
        if (noChord(piece, chord)) {
            return INDEX;
        }
        List<int[]> chords = songs.get(piece).chords;
        return chord == 0 ? 0 : faultsOfMove(chords.get(chord - 1), chords.get(chord));
    }

    int faults(int piece) {
        return noSong(piece) ? INDEX : faultsOf(songs.get(piece).chords);
    }

    int leastFaults(int piece, int chord, int voice) {
        if (noChord(piece, chord) || chord == 0 || chord == songs.get(piece).chords.size() - 1) {
            return INDEX;
        }
        if (!within(voice, 0, 3)) {
            return ARGUMENT;
        }
        int least = Integer.MAX_VALUE;
        for (int tone = 0; tone <= 60; tone++) {
            List<int[]> chords = new ArrayList<>(songs.get(piece).chords);
            int[] tried = chords.get(chord).clone();
            tried[voice] = tone;
            chords.set(chord, tried);
            if (isOrdered(tried)) {
                least = Math.min(least, faultsOf(chords));
            }
        }
        return least;
    }

    private boolean canBeSung(int piece, int date, int shift) {
        for (int[] chord : songs.get(piece).chords) {
            for (int voice = 0; voice < 4; voice++) {
                if (!inRange(chord[voice] + shift, voice, date)) {
                    return false;
                }
            }
        }
        return true;
    }

    int shift(int piece, int date) {
        if (noSong(piece)) {
            return INDEX;
        }
        if (!within(date, 0, 30)) {
            return ARGUMENT;
        }
        for (int distance = 0; distance <= 12; distance++) {
            if (canBeSung(piece, date, -distance)) {
                return -distance;
            }
            if (canBeSung(piece, date, distance)) {
                return distance;
            }
        }
        return STATE;
    }

    int dates(int piece) {
        if (noSong(piece)) {
            return INDEX;
        }
        int count = 0;
        for (int date = 0; date <= 30; date++) {
            count += shift(piece, date) == STATE ? 0 : 1;
        }
        return count;
    }

    int missed(int date) {
        if (!within(date, 0, 30)) {
            return ARGUMENT;
        }
        int count = 0;
        for (Singer singer : singers) {
            count += !singer.there[date] && present(singer.voice, date).isEmpty() ? 1 : 0;
        }
        return count;
    }

    private int lengthOf(List<Integer> set) {
        int sum = 0;
        for (int piece : set) {
            sum += songs.get(piece).seconds;
        }
        return sum;
    }

    private boolean isBetter(List<Integer> set, List<Integer> other) {
        if (lengthOf(set) != lengthOf(other)) {
            return lengthOf(set) > lengthOf(other);
        }
        if (set.size() != other.size()) {
            return set.size() < other.size();
        }
        for (int piece = 0; piece < 6; piece++) {
            if (set.contains(piece) != other.contains(piece)) {
                return set.contains(piece);
            }
        }
        return false;
    }

    private List<Integer> best(List<Integer> taken, int piece, int date, int seconds) {
        if (piece == songs.size()) {
            return taken;
        }
        List<Integer> without = best(taken, piece + 1, date, seconds);
        List<Integer> more = new ArrayList<>(taken);
        more.add(piece);
        if (shift(piece, date) == STATE || lengthOf(more) > seconds) {
            return without;
        }
        List<Integer> with = best(more, piece + 1, date, seconds);
        return isBetter(with, without) ? with : without;
    }

    int programme(int date, int seconds) {
        if (!within(date, 0, 30) || !within(seconds, 0, 20000)) {
            return ARGUMENT;
        }
        int sum = 0;
        for (int piece : best(new ArrayList<>(), 0, date, seconds)) {
            sum += 1 << piece;
        }
        return sum;
    }

    int duration(int date, int seconds) {
        if (!within(date, 0, 30) || !within(seconds, 0, 20000)) {
            return ARGUMENT;
        }
        return lengthOf(best(new ArrayList<>(), 0, date, seconds));
    }

    int rehearse(int piece, int times) {
        if (noSong(piece)) {
            return INDEX;
        }
        if (!within(times, 1, 30)) {
            return ARGUMENT;
        }
        Song song = songs.get(piece);
        for (int time = 0; time < times; time++) {
            int weakest = weakest(piece);
            song.practice.set(weakest, song.practice.get(weakest) + 4);
        }
        int sum = 0;
        for (int chord = 0; chord < song.chords.size(); chord++) {
            sum += weakness(piece, chord);
        }
        return sum;
    }

    int weakness(int piece, int chord) {
        if (noChord(piece, chord)) {
            return INDEX;
        }
        int weakness = 10 + 5 * faultsAt(piece, chord) - songs.get(piece).practice.get(chord);
        return weakness < 0 ? 0 : weakness;
    }

    int weakest(int piece) {
        if (noSong(piece)) {
            return INDEX;
        }
        int weakest = 0;
        for (int chord = 0; chord < songs.get(piece).chords.size(); chord++) {
            if (weakness(piece, chord) > weakness(piece, weakest)) {
                weakest = chord;
            }
        }
        return weakest;
    }
}
