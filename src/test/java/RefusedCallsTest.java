import java.util.ArrayList;
import java.util.Arrays;
import java.util.List;
import java.util.function.Consumer;
import java.util.function.IntSupplier;
import java.util.function.Supplier;

/**
 * "A method that throws an exception changes nothing.": each call that is refused is made on a choir of which a twin
 * is left alone; then both are asked for all that they hold, which must agree. Asked calls that only tell something,
 * leastFaults ("Nothing changes.") among them, are looked at in the same way.
 * Each choir lives for less than 512 calls, so what is asked afterwards comes in groups, each with choirs of its own.
 */
final class RefusedCallsTest {
    private static final int INDEX = -1001;
    private static final int ARGUMENT = -1002;
    private static final int STATE = -1003;
    private static final int GROUPS = 6;

    /** Wrong whatever they are used for: below 0, above all that is allowed, and with the bits of what is allowed. */
    private static final int[] STRANGE = {-1, 20001, Integer.MIN_VALUE, Integer.MAX_VALUE, 1 << 30};

    private final String state;
    private final Supplier<ChoirPlanner> maker;
    private final List<Consumer<ChoirPlanner>> calls = new ArrayList<>();
    private final List<Class<?>> due = new ArrayList<>();
    private final List<String> names = new ArrayList<>();

    private RefusedCallsTest(String state, Supplier<ChoirPlanner> maker) {
        this.state = state;
        this.maker = maker;
    }

    public static void main(String[] args) {
        RefusedCallsTest empty = new RefusedCallsTest("an empty choir", ChoirPlanner::new);
        empty.refuseInAnyState(0, 0, 0);
        empty.state("addPiece of no draft", x -> x.addPiece(10));
        empty.compare();

        RefusedCallsTest some = new RefusedCallsTest("a choir", RefusedCallsTest::someChoir);
        some.refuseInAnyState(5, 2, 3);
        some.refuseOnPieces();
        some.asked(5);
        some.compare();

        RefusedCallsTest full = new RefusedCallsTest("a full choir", RefusedCallsTest::fullChoir);
        full.refuseInAnyState(12, 6, 3);
        full.refuseOnPieces();
        full.asked(12);
        for (int voice = 0; voice < 4; voice++) {
            int each = voice;
            full.state("addSinger, the thirteenth", x -> x.addSinger(each, 20, 60));
        }
        full.state("chord, the seventeenth", x -> x.chord(40, 30, 20, 10));
        full.state("addPiece, the seventh", x -> x.addPiece(10));
        full.compare();

        RefusedCallsTest unwritten = new RefusedCallsTest("a full choir without a draft", RefusedCallsTest::fullChoirWithoutDraft);
        unwritten.state("addPiece, the seventh and of no draft", x -> x.addPiece(10));
        unwritten.argument("addPiece, the seventh of a wrong length", x -> x.addPiece(3601));
        unwritten.compare();
        Check.end("RefusedCallsTest");
    }

    // ---- the choirs

    /** The third voice lacks on date 8, so that there shift is refused. */
    private static ChoirPlanner someChoir() {
        ChoirPlanner x = new ChoirPlanner();
        addSingers(x, 5);
        addPieces(x, 2);
        x.chord(50, 40, 30, 20);
        x.chord(51, 41, 31, 21);
        return x;
    }

    private static ChoirPlanner fullChoir() {
        ChoirPlanner x = fullChoirWithoutDraft();
        for (int chord = 0; chord < 16; chord++) {
            x.chord(44 + chord, 40, 30, 20);
        }
        return x;
    }

    private static ChoirPlanner fullChoirWithoutDraft() {
        ChoirPlanner x = new ChoirPlanner();
        addSingers(x, 12);
        addPieces(x, 6);
        return x;
    }

    private static void addSingers(ChoirPlanner x, int count) {
        for (int singer = 0; singer < count; singer++) {
            int voice = singer % 4;
            x.addSinger(voice, 33 - 10 * voice + singer, 60 - 3 * voice - singer);
            if (voice == 2) {
                x.tell(singer, 8, false);
            }
        }
        x.tell(1, 0, false);
        x.tell(0, 30, false);
    }

    /** Pieces of three chords with parallels and leaps, of which some chords are practised. */
    private static void addPieces(ChoirPlanner x, int count) {
        for (int piece = 0; piece < count; piece++) {
            x.chord(48, 36, 24, 12 + piece % 3);
            x.chord(50, 38, 26, 14);
            x.chord(41, 38, 22, 14);
            x.addPiece(100 + 50 * (piece % 4));
            x.rehearse(piece, 4 + piece);
        }
    }

    // ---- the calls

    private void add(String name, Class<?> thrown, Consumer<ChoirPlanner> call) {
        names.add(state + ", " + name);
        due.add(thrown);
        calls.add(call);
    }

    private void index(String name, Consumer<ChoirPlanner> call) {
        add(name, IndexOutOfBoundsException.class, call);
    }

    private void argument(String name, Consumer<ChoirPlanner> call) {
        add(name, IllegalArgumentException.class, call);
    }

    private void state(String name, Consumer<ChoirPlanner> call) {
        add(name, IllegalStateException.class, call);
    }

    private void answered(String name, Consumer<ChoirPlanner> call) {
        add(name, null, call);
    }

    /** The number beyond an edge, and the strange ones. */
    private static int[] wrong(int... edges) {
        int[] all = Arrays.copyOf(edges, edges.length + STRANGE.length);
        System.arraycopy(STRANGE, 0, all, edges.length, STRANGE.length);
        return all;
    }

    /** What is refused whatever the choir has; the numbers of the first singer, piece and chord that it does not have. */
    private void refuseInAnyState(int singers, int pieces, int chords) {
        refuseNewOnes();
        refuseSingers(singers);
        refuseDates();
        for (int piece : wrong(pieces)) {
            refusePiece(piece);
        }
        for (int chord : wrong(chords)) {
            if (pieces > 0) {
                refuseChord(pieces - 1, chord);
            }
        }
    }

    private void refuseNewOnes() {
        for (int tone : wrong(61)) {
            argument("addSinger from " + tone, x -> x.addSinger(0, tone, 60));
            argument("addSinger to " + tone, x -> x.addSinger(0, 0, tone));
            argument("chord, first " + tone, x -> x.chord(tone, 0, 0, 0));
            argument("chord, second " + tone, x -> x.chord(60, tone, 0, 0));
            argument("chord, third " + tone, x -> x.chord(60, 60, tone, 0));
            argument("chord, fourth " + tone, x -> x.chord(60, 60, 60, tone));
        }
        argument("addSinger from 31 to 30", x -> x.addSinger(0, 31, 30));
        argument("chord, second above first", x -> x.chord(40, 41, 20, 10));
        argument("chord, third above second", x -> x.chord(40, 30, 31, 10));
        argument("chord, fourth above third", x -> x.chord(40, 30, 20, 21));
        for (int voice : wrong(4)) {
            argument("addSinger of voice " + voice, x -> x.addSinger(voice, 0, 60));
            argument("range of voice " + voice, x -> x.range(voice, 0));
        }
        for (int seconds : wrong(0, 3601)) {
            argument("addPiece of " + seconds, x -> x.addPiece(seconds));
        }
    }

    private void refuseSingers(int singers) {
        for (int singer : wrong(singers)) {
            index("tell of " + singer, x -> x.tell(singer, 0, false));
            index("tell of " + singer + " on no date", x -> x.tell(singer, 31, false));
            index("change of " + singer, x -> x.change(singer, 3));
            index("change of " + singer + " to no voice", x -> x.change(singer, 4));
        }
        for (int singer = 0; singer < singers; singer++) {
            int each = singer;
            for (int date : wrong(31, 32)) {
                argument("tell on " + date, x -> x.tell(each, date, false));
                argument("tell on " + date, x -> x.tell(each, date, true));
            }
            for (int voice : wrong(4)) {
                argument("change to " + voice, x -> x.change(each, voice));
            }
        }
    }

    private void refuseDates() {
        for (int date : wrong(31, 32)) {
            argument("range on " + date, x -> x.range(0, date));
            argument("missed on " + date, x -> x.missed(date));
            argument("programme on " + date, x -> x.programme(date, 500));
            argument("duration on " + date, x -> x.duration(date, 500));
        }
        for (int seconds : STRANGE) {
            argument("programme of " + seconds, x -> x.programme(0, seconds));
            argument("duration of " + seconds, x -> x.duration(0, seconds));
        }
    }

    private void refusePiece(int piece) {
        String name = " of piece " + piece;
        index("setTone" + name, x -> x.setTone(piece, 0, 0, 60));
        index("setTone" + name + " of a wrong tone", x -> x.setTone(piece, 0, 4, 61));
        index("faultsAt" + name, x -> x.faultsAt(piece, 0));
        index("faults" + name, x -> x.faults(piece));
        index("leastFaults" + name, x -> x.leastFaults(piece, 1, 0));
        index("shift" + name, x -> x.shift(piece, 0));
        index("dates" + name, x -> x.dates(piece));
        index("rehearse" + name, x -> x.rehearse(piece, 1));
        index("rehearse" + name + " no times", x -> x.rehearse(piece, 0));
        index("weakness" + name, x -> x.weakness(piece, 0));
        index("weakest" + name, x -> x.weakest(piece));
    }

    private void refuseChord(int piece, int chord) {
        String name = " of chord " + chord;
        index("setTone" + name, x -> x.setTone(piece, chord, 0, 60));
        index("setTone" + name + " of a wrong tone", x -> x.setTone(piece, chord, 4, 61));
        index("faultsAt" + name, x -> x.faultsAt(piece, chord));
        index("leastFaults" + name, x -> x.leastFaults(piece, chord, 0));
        index("weakness" + name, x -> x.weakness(piece, chord));
    }

    /** What is refused on the piece 0 of three chords. */
    private void refuseOnPieces() {
        for (int tone : wrong(61)) {
            argument("setTone to " + tone, x -> x.setTone(0, 1, 1, tone));
        }
        for (int voice : wrong(4)) {
            argument("setTone of voice " + voice, x -> x.setTone(0, 1, voice, 30));
            argument("leastFaults of voice " + voice, x -> x.leastFaults(0, 1, voice));
        }
        int[] tones = {50, 38, 26, 14};
        for (int voice = 0; voice < 4; voice++) {
            int each = voice;
            if (voice > 0) {
                state("setTone above voice " + (voice - 1), x -> x.setTone(0, 1, each, tones[each - 1] + 1));
            }
            if (voice < 3) {
                state("setTone below voice " + (voice + 1), x -> x.setTone(0, 1, each, tones[each + 1] - 1));
            }
            index("leastFaults of the first chord", x -> x.leastFaults(0, 0, each));
            index("leastFaults of the last chord", x -> x.leastFaults(0, 2, each));
        }
        for (int times : wrong(0, 31)) {
            argument("rehearse " + times + " times", x -> x.rehearse(0, times));
        }
        for (int date : wrong(31, 32)) {
            argument("shift on " + date, x -> x.shift(0, date));
        }
        state("shift on a date without the third voice", x -> x.shift(0, 8));
    }

    /** What is answered and changes nothing either. */
    private void asked(int singers) {
        for (int voice = 0; voice < 4; voice++) {
            int each = voice;
            answered("range", x -> x.range(each, 0));
            answered("leastFaults", x -> x.leastFaults(0, 1, each));
            answered("setTone to the same", x -> x.setTone(0, 1, each, new int[] {50, 38, 26, 14}[each]));
        }
        answered("tell the same", x -> x.tell(1, 0, false));
        answered("change to the same", x -> x.change(singers - 1, (singers - 1) % 4));
        answered("faultsAt", x -> x.faultsAt(0, 1));
        answered("faults", x -> x.faults(0));
        answered("shift", x -> x.shift(0, 1));
        answered("dates", x -> x.dates(0));
        answered("missed", x -> x.missed(8));
        answered("programme", x -> x.programme(1, 500));
        answered("duration", x -> x.duration(1, 500));
        answered("weakness", x -> x.weakness(0, 1));
        answered("weakest", x -> x.weakest(0));
    }

    // ---- what is asked afterwards

    private void compare() {
        for (int group = 0; group < GROUPS; group++) {
            List<Integer> untouched = answers(maker.get(), group);
            for (int call = 0; call < calls.size(); call++) {
                ChoirPlanner x = maker.get();
                Class<?> got = null;
                try {
                    calls.get(call).accept(x);
                } catch (RuntimeException e) {
                    got = e.getClass();
                }
                Check.that(names.get(call) + ": threw " + got + ", due is " + due.get(call), got == due.get(call));
                Check.that(names.get(call) + ": changes nothing", answers(x, group).equals(untouched));
            }
        }
    }

    private static List<Integer> answers(ChoirPlanner x, int group) {
        List<Integer> answers = new ArrayList<>();
        switch (group) {
            case 0 -> askSingers(x, answers);
            case 1 -> askDates(x, answers);
            case 2 -> askTones(x, answers);
            case 3 -> askFaults(x, answers);
            case 4 -> askPractice(x, answers);
            default -> askDraft(x, answers);
        }
        return answers;
    }

    private static void ask(List<Integer> answers, IntSupplier call) {
        int answer;
        try {
            answer = call.getAsInt();
        } catch (IndexOutOfBoundsException e) {
            answer = INDEX;
        } catch (IllegalArgumentException e) {
            answer = ARGUMENT;
        } catch (IllegalStateException e) {
            answer = STATE;
        }
        answers.add(answer);
    }

    /** On which dates each is there, and in which voice. */
    private static void askSingers(ChoirPlanner x, List<Integer> answers) {
        for (int singer = 0; singer <= 12; singer++) {
            int each = singer;
            for (int date = 0; date <= 30; date++) {
                int day = date;
                ask(answers, () -> x.tell(each, day, true) ? 1 : 0);
            }
            ask(answers, () -> x.change(each, 0));
        }
        ask(answers, () -> x.addSinger(1, 3, 4));
    }

    private static void askDates(ChoirPlanner x, List<Integer> answers) {
        for (int date = 0; date <= 30; date++) {
            int day = date;
            for (int voice = 0; voice < 4; voice++) {
                int each = voice;
                ask(answers, () -> x.range(each, day));
            }
            ask(answers, () -> x.missed(day));
            ask(answers, () -> x.shift(0, day));
            ask(answers, () -> x.programme(day, 300));
            ask(answers, () -> x.duration(day, 449));
        }
        for (int piece = 0; piece <= 6; piece++) {
            int each = piece;
            ask(answers, () -> x.dates(each));
            ask(answers, () -> x.shift(each, 1));
        }
        ask(answers, () -> x.addSinger(0, 0, 1));
    }

    /** From the lowest voice up each tone can be set to 0, which tells the one before. */
    private static void askTones(ChoirPlanner x, List<Integer> answers) {
        for (int piece = 0; piece <= 6; piece++) {
            int each = piece;
            for (int chord = 0; chord <= 3; chord++) {
                int at = chord;
                for (int voice = 3; voice >= 0; voice--) {
                    int part = voice;
                    ask(answers, () -> x.setTone(each, at, part, 0));
                }
            }
        }
    }

    private static void askFaults(ChoirPlanner x, List<Integer> answers) {
        for (int piece = 0; piece <= 6; piece++) {
            int each = piece;
            ask(answers, () -> x.faults(each));
            for (int chord = 0; chord <= 3; chord++) {
                int at = chord;
                ask(answers, () -> x.faultsAt(each, at));
                for (int voice = 0; voice < 4; voice++) {
                    int part = voice;
                    ask(answers, () -> x.leastFaults(each, at, part));
                }
            }
        }
    }

    private static void askPractice(ChoirPlanner x, List<Integer> answers) {
        for (int time = 0; time < 3; time++) {
            for (int piece = 0; piece <= 6; piece++) {
                int each = piece;
                ask(answers, () -> x.weakest(each));
                for (int chord = 0; chord <= 3; chord++) {
                    int at = chord;
                    ask(answers, () -> x.weakness(each, at));
                }
                ask(answers, () -> x.rehearse(each, 3));
            }
        }
    }

    /** How many chords it has, how long it can become, and the piece that comes of it. */
    private static void askDraft(ChoirPlanner x, List<Integer> answers) {
        for (int chord = 0; chord < 17; chord++) {
            ask(answers, () -> x.chord(60, 60, 60, 60));
        }
        ask(answers, () -> x.addPiece(3600));
        ask(answers, () -> x.chord(60, 60, 60, 60));
        for (int piece = 0; piece <= 6; piece++) {
            int each = piece;
            ask(answers, () -> x.faults(each));
            for (int chord = 0; chord <= 2; chord++) {
                int at = chord;
                for (int voice = 3; voice >= 0; voice--) {
                    int part = voice;
                    ask(answers, () -> x.setTone(each, at, part, 0));
                }
            }
        }
        ask(answers, () -> x.addPiece(3600));
    }
}
