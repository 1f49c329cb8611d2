/**
 * The sentences on singers that name an edge, one test each: promises 1 to 5 and the terms that they use.
 * The sentence stands above its test.
 */
final class EdgesOfSingersTest {
    /** Beyond an edge by one, by a whole turn of an int's bits, and by as much as an int can be. */
    private static final int[] NO_DATES = {-1, 31, 32, 62, 63, 64, -32, Integer.MIN_VALUE, Integer.MAX_VALUE};
    private static final int[] NO_VOICES = {-1, 4, 5, Integer.MIN_VALUE, Integer.MAX_VALUE};
    private static final int[] NO_TONES = {-1, 61, 100, Integer.MIN_VALUE, Integer.MAX_VALUE};

    private EdgesOfSingersTest() {
    }

    public static void main(String[] args) {
        newChoirHasNoSingers();
        newChoirHasNoPieces();
        newChoirsShareNothing();
        voiceOfANewSinger();
        lowestOfANewSinger();
        highestOfANewSinger();
        numbersOfSingers();
        twelveSingersAtMost();
        thereOnAllDatesAtFirst();
        singerToTellOf();
        dateToTellOf();
        thereBefore();
        datesStandApart();
        tellRefusesTheSingerFirst();
        singerToChange();
        voiceToChangeTo();
        voiceBefore();
        changeRefusesTheSingerFirst();
        voiceOfARange();
        dateOfARange();
        firstAndLastToneOfARange();
        rangeOfOneTone();
        rangeWithFirstAboveLast();
        rangeOfNobody();
        rangeOfTwelve();
        Check.end("EdgesOfSingersTest");
    }

    private static ChoirPlanner withSingers(int count) {
        ChoirPlanner x = new ChoirPlanner();
        for (int singer = 0; singer < count; singer++) {
            x.addSinger(singer % 4, 10, 50);
        }
        return x;
    }

    /** "Creates a choir without singers and pieces." */
    private static void newChoirHasNoSingers() {
        ChoirPlanner x = new ChoirPlanner();
        for (int singer = -1; singer <= 12; singer++) {
            int each = singer;
            Check.indexRefused("tell of " + singer, () -> x.tell(each, 0, true));
            Check.indexRefused("change of " + singer, () -> x.change(each, 0));
        }
        for (int date = 0; date <= 30; date++) {
            Check.equal("missed of none", x.missed(date), 0);
        }
        Check.equal("the first singer", x.addSinger(0, 0, 60), 0);
    }

    /** "Creates a choir without singers and pieces.", and the draft "is empty at first". */
    private static void newChoirHasNoPieces() {
        ChoirPlanner x = new ChoirPlanner();
        for (int piece = -1; piece <= 6; piece++) {
            int each = piece;
            Check.indexRefused("setTone", () -> x.setTone(each, 0, 0, 0));
            Check.indexRefused("faultsAt", () -> x.faultsAt(each, 0));
            Check.indexRefused("faults", () -> x.faults(each));
            Check.indexRefused("leastFaults", () -> x.leastFaults(each, 1, 0));
            Check.indexRefused("shift", () -> x.shift(each, 0));
            Check.indexRefused("dates", () -> x.dates(each));
            Check.indexRefused("rehearse", () -> x.rehearse(each, 1));
            Check.indexRefused("weakness", () -> x.weakness(each, 0));
            Check.indexRefused("weakest", () -> x.weakest(each));
        }
        Check.equal("programme of none", x.programme(0, 20000), 0);
        Check.equal("duration of none", x.duration(0, 20000), 0);
        Check.stateRefused("the draft is empty", () -> x.addPiece(1));
        Check.equal("its first chord", x.chord(0, 0, 0, 0), 1);
        Check.equal("the first piece", x.addPiece(1), 0);
    }

    /** "Creates a choir without singers and pieces.", whatever other choirs have. */
    private static void newChoirsShareNothing() {
        ChoirPlanner full = withSingers(12);
        full.chord(40, 30, 20, 10);
        full.addPiece(10);
        full.chord(40, 30, 20, 10);
        ChoirPlanner x = new ChoirPlanner();
        Check.indexRefused("no singer of another choir", () -> x.change(0, 0));
        Check.indexRefused("no piece of another choir", () -> x.faults(0));
        Check.stateRefused("no draft of another choir", () -> x.addPiece(10));
        Check.equal("the first singer", x.addSinger(3, 0, 0), 0);
        Check.equal("the other choir's singers stay", full.range(3, 0), 1050);
    }

    /** addSinger, "voice: 0 to 3". */
    private static void voiceOfANewSinger() {
        for (int voice = 0; voice <= 3; voice++) {
            ChoirPlanner x = new ChoirPlanner();
            Check.equal("voice " + voice, x.addSinger(voice, 5, 6), 0);
            for (int each = 0; each <= 3; each++) {
                Check.equal("that voice alone", x.range(each, 0), each == voice ? 506 : -1);
            }
        }
        for (int voice : NO_VOICES) {
            ChoirPlanner x = new ChoirPlanner();
            Check.argumentRefused("voice " + voice, () -> x.addSinger(voice, 5, 6));
            Check.equal("no singer then", x.addSinger(0, 5, 6), 0);
        }
    }

    /** addSinger, "lowest: 0 to 60". */
    private static void lowestOfANewSinger() {
        ChoirPlanner x = new ChoirPlanner();
        Check.equal("lowest 0", x.addSinger(0, 0, 60), 0);
        Check.equal("as the first tone", x.range(0, 0), 60);
        Check.equal("lowest 60", x.addSinger(1, 60, 60), 1);
        Check.equal("as the first tone", x.range(1, 0), 6060);
        for (int tone : NO_TONES) {
            Check.argumentRefused("lowest " + tone, () -> x.addSinger(0, tone, 60));
            Check.argumentRefused("both " + tone, () -> x.addSinger(0, tone, tone));
        }
        Check.equal("no singer by these", x.addSinger(2, 0, 0), 2);
    }

    /** addSinger, "highest: lowest to 60". */
    private static void highestOfANewSinger() {
        int[] lowest = {0, 1, 30, 59, 60};
        for (int tone : lowest) {
            ChoirPlanner x = new ChoirPlanner();
            Check.argumentRefused("one below " + tone, () -> x.addSinger(0, tone, tone - 1));
            Check.argumentRefused("61 above " + tone, () -> x.addSinger(0, tone, 61));
            Check.argumentRefused("the greatest above " + tone, () -> x.addSinger(0, tone, Integer.MAX_VALUE));
            Check.argumentRefused("the least below " + tone, () -> x.addSinger(0, tone, Integer.MIN_VALUE));
            Check.equal("the same as " + tone, x.addSinger(0, tone, tone), 0);
            Check.equal("range of it", x.range(0, 0), 101 * tone);
            Check.equal("60 above " + tone, x.addSinger(1, tone, 60), 1);
            Check.equal("range of it", x.range(1, 0), 100 * tone + 60);
        }
    }

    /** "Singers are numbered from 0", addSinger "returns the number of the singer". */
    private static void numbersOfSingers() {
        ChoirPlanner x = new ChoirPlanner();
        for (int singer = 0; singer < 12; singer++) {
            Check.argumentRefused("takes no number", () -> x.addSinger(4, 0, 0));
            Check.equal("number", x.addSinger(0, singer, 60), singer);
            Check.equal("the singer of that number", x.change(singer, 1), 0);
            Check.equal("with the tones told", x.range(1, 0), 100 * singer + 60);
        }
    }

    /** "there are at most 12", addSinger throws IllegalStateException "if there are 12", arguments are refused before. */
    private static void twelveSingersAtMost() {
        ChoirPlanner x = withSingers(11);
        Check.equal("the twelfth", x.addSinger(3, 20, 40), 11);
        for (int attempt = 0; attempt < 3; attempt++) {
            Check.stateRefused("the thirteenth", () -> x.addSinger(0, 30, 30));
        }
        Check.argumentRefused("voice first", () -> x.addSinger(4, 30, 30));
        Check.argumentRefused("voice first", () -> x.addSinger(-1, 30, 30));
        Check.argumentRefused("lowest first", () -> x.addSinger(0, -1, 30));
        Check.argumentRefused("highest first", () -> x.addSinger(0, 30, 29));
        Check.argumentRefused("highest first", () -> x.addSinger(0, 30, 61));
        Check.equal("the thirteenth sings nowhere", x.range(0, 0), 1050);
        Check.equal("the twelfth does", x.range(3, 0), 2040);
        Check.indexRefused("number 12", () -> x.tell(12, 0, true));
        Check.indexRefused("number 12", () -> x.change(12, 0));
    }

    /** "dates, 0 to 30, on which the singer is there, all of them at first". */
    private static void thereOnAllDatesAtFirst() {
        ChoirPlanner x = withSingers(12);
        for (int date = 0; date <= 30; date++) {
            Check.equal("the first singer on " + date, x.tell(0, date, false), true);
            Check.equal("the last singer on " + date, x.tell(11, date, false), true);
        }
    }

    /** tell throws IndexOutOfBoundsException "if there is no such singer". */
    private static void singerToTellOf() {
        for (int count = 1; count <= 12; count++) {
            ChoirPlanner x = withSingers(count);
            int next = count;
            Check.equal("the last of " + count, x.tell(count - 1, 0, true), true);
            Check.indexRefused("one beyond " + count, () -> x.tell(next, 0, false));
        }
        ChoirPlanner x = withSingers(12);
        int[] numbers = {-1, 12, 13, 32, Integer.MIN_VALUE, Integer.MAX_VALUE};
        for (int singer : numbers) {
            Check.indexRefused("singer " + singer, () -> x.tell(singer, 0, false));
        }
        for (int singer = 0; singer < 12; singer++) {
            Check.equal("all are there yet", x.tell(singer, 0, true), true);
        }
    }

    /** tell, "date: 0 to 30". */
    private static void dateToTellOf() {
        ChoirPlanner x = withSingers(1);
        for (int date : NO_DATES) {
            Check.argumentRefused("date " + date, () -> x.tell(0, date, false));
        }
        Check.equal("date 0 is there yet", x.tell(0, 0, false), true);
        Check.equal("date 30 is there yet", x.tell(0, 30, false), true);
        Check.equal("date 0 is told", x.range(0, 0), -1);
        Check.equal("date 30 is told", x.range(0, 30), -1);
        for (int date = 1; date <= 29; date++) {
            Check.equal("those between are not", x.range(0, date), 1050);
        }
    }

    /** tell returns "whether the singer was there before". */
    private static void thereBefore() {
        ChoirPlanner x = withSingers(1);
        boolean[] told = {true, false, false, true, true, false, true, false};
        boolean before = true;
        for (boolean there : told) {
            Check.equal("before", x.tell(0, 15, there), before);
            before = there;
        }
    }

    /** tell tells of "a singer" and "a date": of no other singer, on no other date. */
    private static void datesStandApart() {
        for (int date = 0; date <= 30; date++) {
            ChoirPlanner x = withSingers(2);
            x.tell(0, date, false);
            for (int other = 0; other <= 30; other++) {
                Check.equal("told on " + date + ", asked on " + other, x.tell(0, other, true), other != date);
                Check.equal("the other singer", x.tell(1, other, true), true);
            }
        }
    }

    /** tell throws IndexOutOfBoundsException ahead of IllegalArgumentException. */
    private static void tellRefusesTheSingerFirst() {
        ChoirPlanner x = withSingers(1);
        Check.indexRefused("both wrong", () -> x.tell(1, 31, true));
        Check.indexRefused("both wrong", () -> x.tell(-1, -1, true));
        Check.indexRefused("the singer alone", () -> x.tell(1, 30, true));
        Check.argumentRefused("the date alone", () -> x.tell(0, 31, true));
    }

    /** change throws IndexOutOfBoundsException "if there is no such singer". */
    private static void singerToChange() {
        for (int count = 1; count <= 12; count++) {
            ChoirPlanner x = withSingers(count);
            int next = count;
            int voice = (count - 1) % 4;
            Check.equal("the last of " + count, x.change(count - 1, voice), voice);
            Check.indexRefused("one beyond " + count, () -> x.change(next, 0));
        }
        ChoirPlanner x = withSingers(12);
        int[] numbers = {-1, 12, 13, 32, Integer.MIN_VALUE, Integer.MAX_VALUE};
        for (int singer : numbers) {
            Check.indexRefused("singer " + singer, () -> x.change(singer, 0));
        }
        for (int singer = 0; singer < 12; singer++) {
            Check.equal("all have their voices yet", x.change(singer, 0), singer % 4);
        }
    }

    /** change, "voice: 0 to 3". */
    private static void voiceToChangeTo() {
        ChoirPlanner x = new ChoirPlanner();
        x.addSinger(2, 5, 6);
        for (int voice : NO_VOICES) {
            Check.argumentRefused("voice " + voice, () -> x.change(0, voice));
            Check.equal("the voice stays", x.range(2, 0), 506);
        }
        Check.equal("to 0", x.change(0, 0), 2);
        Check.equal("sings 0", x.range(0, 0), 506);
        Check.equal("to 3", x.change(0, 3), 0);
        Check.equal("sings 3", x.range(3, 0), 506);
    }

    /** change returns "the voice before", which may be the same. */
    private static void voiceBefore() {
        for (int from = 0; from <= 3; from++) {
            for (int to = 0; to <= 3; to++) {
                ChoirPlanner x = new ChoirPlanner();
                x.addSinger(from, 7, 9);
                x.tell(0, 30, false);
                Check.equal("from " + from + " to " + to, x.change(0, to), from);
                Check.equal("the new voice", x.range(to, 0), 709);
                Check.equal("the dates stay", x.range(to, 30), -1);
                Check.equal("the old voice", x.range(from, 0), from == to ? 709 : -1);
            }
        }
    }

    /** change throws IndexOutOfBoundsException ahead of IllegalArgumentException. */
    private static void changeRefusesTheSingerFirst() {
        ChoirPlanner x = withSingers(1);
        Check.indexRefused("both wrong", () -> x.change(1, 4));
        Check.indexRefused("both wrong", () -> x.change(-1, -1));
        Check.indexRefused("the singer alone", () -> x.change(1, 3));
        Check.argumentRefused("the voice alone", () -> x.change(0, 4));
    }

    /** range, "voice: 0 to 3". */
    private static void voiceOfARange() {
        ChoirPlanner x = withSingers(4);
        Check.equal("voice 0", x.range(0, 0), 1050);
        Check.equal("voice 3", x.range(3, 0), 1050);
        for (int voice : NO_VOICES) {
            Check.argumentRefused("voice " + voice, () -> x.range(voice, 0));
            Check.argumentRefused("voice and date", () -> x.range(voice, 31));
        }
    }

    /** range, "date: 0 to 30". */
    private static void dateOfARange() {
        ChoirPlanner x = withSingers(4);
        Check.equal("date 0", x.range(1, 0), 1050);
        Check.equal("date 30", x.range(1, 30), 1050);
        for (int date : NO_DATES) {
            Check.argumentRefused("date " + date, () -> x.range(1, date));
        }
    }

    /** range: "from the highest of the lowest tones to the lowest of the highest tones of all its singers who are there". */
    private static void firstAndLastToneOfARange() {
        ChoirPlanner x = new ChoirPlanner();
        x.addSinger(1, 20, 60);
        x.addSinger(1, 0, 40);
        Check.equal("first from one, last from the other", x.range(1, 5), 2040);
        x.addSinger(2, 39, 39);
        Check.equal("not of another voice", x.range(1, 5), 2040);
        x.addSinger(1, 19, 41);
        Check.equal("not those beyond by one", x.range(1, 5), 2040);
        x.addSinger(1, 21, 39);
        Check.equal("those within by one", x.range(1, 5), 2139);
        x.tell(4, 5, false);
        Check.equal("not who is not there", x.range(1, 5), 2040);
        Check.equal("but on the date before", x.range(1, 4), 2139);
        Check.equal("and on the date after", x.range(1, 6), 2139);
        x.tell(0, 5, false);
        Check.equal("from the others", x.range(1, 5), 1940);
        x.tell(1, 5, false);
        Check.equal("from the last one there", x.range(1, 5), 1941);
    }

    /** range returns "100 times its first tone plus its last tone": first and last may be one, 0 is a tone. */
    private static void rangeOfOneTone() {
        for (int tone = 0; tone <= 60; tone++) {
            ChoirPlanner x = new ChoirPlanner();
            x.addSinger(0, 0, tone);
            x.addSinger(0, tone, 60);
            Check.equal("tone " + tone + " alone", x.range(0, 0), 101 * tone);
        }
    }

    /** "it is empty if ... its first tone is above its last one", by one already. */
    private static void rangeWithFirstAboveLast() {
        for (int tone = 0; tone < 60; tone++) {
            ChoirPlanner x = new ChoirPlanner();
            x.addSinger(0, 0, tone);
            x.addSinger(0, tone + 1, 60);
            Check.equal("first " + (tone + 1) + " above last", x.range(0, 0), -1);
        }
        ChoirPlanner x = new ChoirPlanner();
        x.addSinger(0, 0, 0);
        x.addSinger(0, 60, 60);
        Check.equal("first far above last", x.range(0, 0), -1);
    }

    /** "it is empty if nobody is there". */
    private static void rangeOfNobody() {
        ChoirPlanner x = new ChoirPlanner();
        Check.equal("no singers", x.range(2, 30), -1);
        x.addSinger(2, 0, 60);
        Check.equal("one there", x.range(2, 30), 60);
        x.tell(0, 30, false);
        Check.equal("none there", x.range(2, 30), -1);
        Check.equal("there the date before", x.range(2, 29), 60);
        x.tell(0, 30, true);
        x.change(0, 1);
        Check.equal("none of the voice", x.range(2, 30), -1);
    }

    /** "of all its singers", of twelve too. */
    private static void rangeOfTwelve() {
        ChoirPlanner x = new ChoirPlanner();
        for (int singer = 0; singer < 12; singer++) {
            x.addSinger(3, 10 + singer, 50 - singer);
        }
        for (int singer = 11; singer >= 0; singer--) {
            Check.equal("with " + singer, x.range(3, 30), 100 * (10 + singer) + 50 - singer);
            x.tell(singer, 30, false);
        }
        Check.equal("with nobody", x.range(3, 30), -1);
    }
}
