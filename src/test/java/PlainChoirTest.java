import java.util.function.IntSupplier;

/** Compares ChoirPlanner with PlainChoir in long runs of calls, always the same ones. */
final class PlainChoirTest {
    private static final int RUNS = 1500;
    private static final int CALLS = 512;
    private static final int[] STRANGE = {-1, Integer.MIN_VALUE, Integer.MAX_VALUE, 4, 6, 12, 16, 31, 61, 3601, 20001};

    private long state;
    private ChoirPlanner planner;
    private PlainChoir plain;
    private int call;

    private PlainChoirTest(int run) {
        state = 88172645463325252L + 1000003L * run;
        planner = new ChoirPlanner();
        plain = new PlainChoir();
    }

    public static void main(String[] args) {
        for (int run = 0; run < RUNS; run++) {
            new PlainChoirTest(run).run(run);
        }
        Check.end("PlainChoirTest");
    }

    private void run(int run) {
        boolean agrees = true;
        for (call = 0; call < CALLS && agrees; call++) {
            agrees = step(run);
        }
        Check.that("run " + run + " agrees", agrees);
    }

    /** A number from first to last out of a fixed row (xorshift). */
    private int any(int first, int last) {
        state ^= state << 13;
        state ^= state >>> 7;
        state ^= state << 17;
        return first + (int) Long.remainderUnsigned(state, last - first + 1L);
    }

    /** Mostly a number from first to last, now and then one beside it or a strange one. */
    private int mostly(int first, int last) {
        int kind = any(0, 39);
        if (kind == 0) {
            return STRANGE[any(0, STRANGE.length - 1)];
        }
        return kind == 1 ? any(0, 1) == 0 ? first - 1 : last + 1 : any(first, last);
    }

    private boolean agree(String what, IntSupplier asked, IntSupplier due) {
        int got;
        try {
            got = asked.getAsInt();
        } catch (RuntimeException e) {
            got = code(e);
        }
        int want = due.getAsInt();
        if (got != want) {
            Check.that("call " + call + ", " + what + ": got " + got + ", due is " + want, false);
        }
        return got == want;
    }

    private static int code(RuntimeException e) {
        if (e.getClass() == IndexOutOfBoundsException.class) {
            return PlainChoir.INDEX;
        }
        if (e.getClass() == IllegalArgumentException.class) {
            return PlainChoir.ARGUMENT;
        }
        return e.getClass() == IllegalStateException.class ? PlainChoir.STATE : -1000;
    }

    private boolean step(int run) {
        int pieces = run % 7;
        switch (any(0, 22)) {
            case 0: return call < 60 || any(0, 9) == 0 ? addSinger() : tell();
            case 1: return call < 60 ? addSinger() : tell();
            case 2: return tell();
            case 3: return change();
            case 4: return range();
            case 5: return call < 200 || any(0, 9) == 0 ? chord() : setTone(pieces);
            case 6: return chordAndPiece();
            case 7: return setTone(pieces);
            case 8: return setTone(pieces);
            case 9: return faults(pieces);
            case 10: return leastFaults(pieces);
            case 11: return shift(pieces);
            case 12: return shift(pieces);
            case 13: return dates(pieces);
            case 14: return missed();
            case 15: return programme();
            case 16: return programme();
            case 17: return duration();
            case 18: return rehearse(pieces);
            case 19: return weakness(pieces);
            case 20: return weakest(pieces);
            case 21: return chord();
            default: return faultsAt(pieces);
        }
    }

    private int date() {
        return any(0, 2) == 0 ? mostly(0, 30) : any(0, 3);
    }

    private int piece(int pieces) {
        return mostly(0, pieces > 0 ? pieces - 1 : 5);
    }

    private boolean addSinger() {
        int voice = mostly(0, 3);
        int lowest = mostly(0, 14) + 12 - 4 * (voice & 3) + any(0, 5);
        int highest = lowest + mostly(0, 40);
        return agree("addSinger(" + voice + ", " + lowest + ", " + highest + ")",
                () -> planner.addSinger(voice, lowest, highest), () -> plain.addSinger(voice, lowest, highest));
    }

    private boolean tell() {
        int singer = mostly(0, 11);
        int date = date();
        boolean there = any(0, 3) != 0;
        return agree("tell(" + singer + ", " + date + ", " + there + ")",
                () -> planner.tell(singer, date, there) ? 1 : 0, () -> plain.tell(singer, date, there));
    }

    private boolean change() {
        int singer = mostly(0, 11);
        int voice = mostly(0, 3);
        return agree("change(" + singer + ", " + voice + ")",
                () -> planner.change(singer, voice), () -> plain.change(singer, voice));
    }

    private boolean range() {
        int voice = mostly(0, 3);
        int date = date();
        return agree("range(" + voice + ", " + date + ")",
                () -> planner.range(voice, date), () -> plain.range(voice, date));
    }

    /** Octaves and fifths come often, so that parallels do. */
    private boolean chord() {
        int[] intervals = {0, 5, 7, 12, 3, 19};
        int fourth = mostly(10, 20);
        int third = fourth + intervals[any(0, 4)];
        int second = third + intervals[any(0, 4)];
        int first = second + intervals[any(0, 5)] + any(-1, 1) * any(0, 1);
        return agree("chord(" + first + ", " + second + ", " + third + ", " + fourth + ")",
                () -> planner.chord(first, second, third, fourth), () -> plain.chord(first, second, third, fourth));
    }

    private boolean addPiece() {
        int seconds = any(0, 1) == 0 ? 100 * any(1, 8) : mostly(1, 3600);
        return agree("addPiece(" + seconds + ")", () -> planner.addPiece(seconds), () -> plain.addPiece(seconds));
    }

    private boolean chordAndPiece() {
        return any(0, 2) != 0 ? chord() : addPiece();
    }

    private boolean setTone(int pieces) {
        int piece = piece(pieces);
        int chord = any(0, 1) == 0 ? any(0, 3) : mostly(0, 15);
        int voice = mostly(0, 3);
        int tone = any(0, 1) == 0 ? mostly(0, 60) : any(40, 50) - 10 * (voice & 3);
        return agree("setTone(" + piece + ", " + chord + ", " + voice + ", " + tone + ")",
                () -> planner.setTone(piece, chord, voice, tone), () -> plain.setTone(piece, chord, voice, tone));
    }

    private boolean faultsAt(int pieces) {
        int piece = piece(pieces);
        int chord = any(0, 1) == 0 ? any(0, 3) : mostly(0, 15);
        return agree("faultsAt(" + piece + ", " + chord + ")",
                () -> planner.faultsAt(piece, chord), () -> plain.faultsAt(piece, chord));
    }

    private boolean faults(int pieces) {
        int piece = piece(pieces);
        return agree("faults(" + piece + ")", () -> planner.faults(piece), () -> plain.faults(piece));
    }

    private boolean leastFaults(int pieces) {
        int piece = piece(pieces);
        int chord = any(0, 1) == 0 ? any(0, 3) : mostly(0, 15);
        int voice = mostly(0, 3);
        return agree("leastFaults(" + piece + ", " + chord + ", " + voice + ")",
                () -> planner.leastFaults(piece, chord, voice), () -> plain.leastFaults(piece, chord, voice));
    }

    private boolean shift(int pieces) {
        int piece = piece(pieces);
        int date = date();
        return agree("shift(" + piece + ", " + date + ")",
                () -> planner.shift(piece, date), () -> plain.shift(piece, date));
    }

    private boolean dates(int pieces) {
        int piece = piece(pieces);
        return agree("dates(" + piece + ")", () -> planner.dates(piece), () -> plain.dates(piece));
    }

    private boolean missed() {
        int date = date();
        return agree("missed(" + date + ")", () -> planner.missed(date), () -> plain.missed(date));
    }

    private int time() {
        return any(0, 2) == 0 ? mostly(0, 20000) : any(0, 1) == 0 ? 100 * any(0, 24) : any(0, 5000);
    }

    private boolean programme() {
        int date = date();
        int seconds = time();
        return agree("programme(" + date + ", " + seconds + ")",
                () -> planner.programme(date, seconds), () -> plain.programme(date, seconds));
    }

    private boolean duration() {
        int date = date();
        int seconds = time();
        return agree("duration(" + date + ", " + seconds + ")",
                () -> planner.duration(date, seconds), () -> plain.duration(date, seconds));
    }

    private boolean rehearse(int pieces) {
        int piece = piece(pieces);
        int times = any(0, 1) == 0 ? any(1, 4) : mostly(1, 30);
        return agree("rehearse(" + piece + ", " + times + ")",
                () -> planner.rehearse(piece, times), () -> plain.rehearse(piece, times));
    }

    private boolean weakness(int pieces) {
        int piece = piece(pieces);
        int chord = any(0, 1) == 0 ? any(0, 3) : mostly(0, 15);
        return agree("weakness(" + piece + ", " + chord + ")",
                () -> planner.weakness(piece, chord), () -> plain.weakness(piece, chord));
    }

    private boolean weakest(int pieces) {
        int piece = piece(pieces);
        return agree("weakest(" + piece + ")", () -> planner.weakest(piece), () -> plain.weakest(piece));
    }
}
