/** Promises 1 to 5: a new object, addSinger, tell, change, range. */
final class SingersTest {
    private static final int[] WRONG_DATES = {-1, 31, Integer.MIN_VALUE, Integer.MAX_VALUE};
    private static final int[] WRONG_VOICES = {-1, 4, Integer.MIN_VALUE, Integer.MAX_VALUE};

    private SingersTest() {
    }

    public static void main(String[] args) {
        newObject();
        addSinger();
        addSingerRefuses();
        addSingerRefusesTheThirteenth();
        tell();
        tellRefuses();
        change();
        changeRefuses();
        range();
        rangeIsEmpty();
        rangeRefuses();
        Check.end("SingersTest");
    }

    private static void newObject() {
        ChoirPlanner x = new ChoirPlanner();
        Check.indexRefused("no singer to tell of", () -> x.tell(0, 0, true));
        Check.indexRefused("no singer to change", () -> x.change(0, 0));
        Check.indexRefused("no piece", () -> x.faults(0));
        Check.stateRefused("an empty draft", () -> x.addPiece(1));
        for (int date = 0; date <= 30; date++) {
            for (int voice = 0; voice <= 3; voice++) {
                Check.equal("range of nobody", x.range(voice, date), -1);
            }
            Check.equal("nobody missed", x.missed(date), 0);
            Check.equal("nothing to sing", x.programme(date, 20000), 0);
            Check.equal("no time to sing", x.duration(date, 20000), 0);
        }
        ChoirPlanner other = new ChoirPlanner();
        other.addSinger(0, 0, 60);
        Check.equal("objects share nothing", x.range(0, 0), -1);
    }

    private static void addSinger() {
        ChoirPlanner x = new ChoirPlanner();
        Check.equal("first singer", x.addSinger(0, 0, 60), 0);
        Check.equal("second singer", x.addSinger(3, 0, 0), 1);
        Check.equal("third singer", x.addSinger(2, 60, 60), 2);
        Check.equal("widest range", x.range(0, 0), 60);
        Check.equal("lowest tone alone", x.range(3, 0), 0);
        Check.equal("highest tone alone", x.range(2, 0), 6060);
        for (int date = 0; date <= 30; date++) {
            Check.equal("there on all dates", x.tell(2, date, true), true);
        }
    }

    private static void addSingerRefuses() {
        ChoirPlanner x = new ChoirPlanner();
        for (int voice : WRONG_VOICES) {
            Check.argumentRefused("voice " + voice, () -> x.addSinger(voice, 10, 20));
        }
        Check.argumentRefused("lowest -1", () -> x.addSinger(0, -1, 20));
        Check.argumentRefused("lowest 61", () -> x.addSinger(0, 61, 61));
        Check.argumentRefused("highest 61", () -> x.addSinger(0, 10, 61));
        Check.argumentRefused("highest below lowest", () -> x.addSinger(0, 10, 9));
        Check.argumentRefused("extremes", () -> x.addSinger(0, Integer.MIN_VALUE, Integer.MAX_VALUE));
        Check.argumentRefused("highest the greatest int", () -> x.addSinger(0, 0, Integer.MAX_VALUE));
        Check.argumentRefused("highest the least int", () -> x.addSinger(0, 0, Integer.MIN_VALUE));
        Check.equal("refused singers do not count", x.addSinger(0, 10, 10), 0);
        Check.equal("refused singers do not sing", x.range(0, 0), 1010);
    }

    private static void addSingerRefusesTheThirteenth() {
        ChoirPlanner x = new ChoirPlanner();
        for (int singer = 0; singer < 12; singer++) {
            Check.equal("number", x.addSinger(singer % 4, singer, 60 - singer), singer);
        }
        Check.stateRefused("the thirteenth", () -> x.addSinger(0, 30, 30));
        Check.argumentRefused("the thirteenth with a wrong voice", () -> x.addSinger(4, 30, 30));
        Check.argumentRefused("the thirteenth with wrong tones", () -> x.addSinger(0, 31, 30));
        Check.equal("the thirteenth does not sing", x.range(0, 0), 852);
        Check.equal("the twelfth does", x.change(11, 0), 3);
        Check.indexRefused("the thirteenth is not there", () -> x.change(12, 0));
    }

    private static void tell() {
        ChoirPlanner x = new ChoirPlanner();
        x.addSinger(1, 10, 40);
        x.addSinger(1, 20, 50);
        Check.equal("there at first", x.tell(0, 30, false), true);
        Check.equal("not there then", x.tell(0, 30, false), false);
        Check.equal("only that date", x.tell(0, 29, true), true);
        Check.equal("only that singer", x.tell(1, 30, true), true);
        Check.equal("range without", x.range(1, 30), 2050);
        Check.equal("range on other dates", x.range(1, 0), 2040);
        Check.equal("back", x.tell(0, 30, true), false);
        Check.equal("there again", x.tell(0, 30, true), true);
        Check.equal("range with", x.range(1, 30), 2040);
        Check.equal("date 0", x.tell(0, 0, false), true);
        Check.equal("date 0 told", x.tell(0, 0, false), false);
        Check.equal("date 30 is not date 0", x.tell(0, 30, true), true);
    }

    private static void tellRefuses() {
        ChoirPlanner x = new ChoirPlanner();
        x.addSinger(0, 10, 20);
        for (int date : WRONG_DATES) {
            Check.argumentRefused("date " + date, () -> x.tell(0, date, false));
            Check.indexRefused("no singer comes before date " + date, () -> x.tell(1, date, false));
        }
        Check.indexRefused("singer -1", () -> x.tell(-1, 0, false));
        Check.indexRefused("singer 1", () -> x.tell(1, 0, false));
        Check.indexRefused("singer 12", () -> x.tell(12, 0, false));
        Check.indexRefused("singer of the greatest number", () -> x.tell(Integer.MAX_VALUE, 0, false));
        for (int date = 0; date <= 30; date++) {
            Check.equal("a refused call changes nothing", x.tell(0, date, true), true);
        }
    }

    private static void change() {
        ChoirPlanner x = new ChoirPlanner();
        x.addSinger(0, 30, 50);
        x.addSinger(3, 10, 40);
        x.tell(0, 4, false);
        Check.equal("voice before", x.change(0, 3), 0);
        Check.equal("old voice", x.range(0, 0), -1);
        Check.equal("new voice", x.range(3, 0), 3040);
        Check.equal("dates go along", x.range(3, 4), 1040);
        Check.equal("the same voice", x.change(0, 3), 3);
        Check.equal("and back", x.change(0, 0), 3);
        Check.equal("as at first", x.range(0, 0), 3050);
    }

    private static void changeRefuses() {
        ChoirPlanner x = new ChoirPlanner();
        x.addSinger(2, 10, 20);
        for (int voice : WRONG_VOICES) {
            Check.argumentRefused("voice " + voice, () -> x.change(0, voice));
            Check.indexRefused("no singer comes before voice " + voice, () -> x.change(1, voice));
        }
        Check.indexRefused("singer -1", () -> x.change(-1, 0));
        Check.indexRefused("singer 1", () -> x.change(1, 0));
        Check.equal("a refused call changes nothing", x.change(0, 2), 2);
    }

    private static void range() {
        ChoirPlanner x = new ChoirPlanner();
        x.addSinger(2, 12, 40);
        x.addSinger(2, 15, 44);
        x.addSinger(2, 14, 38);
        x.addSinger(1, 30, 31);
        Check.equal("highest lowest and lowest highest", x.range(2, 7), 1538);
        x.tell(1, 7, false);
        Check.equal("without the second", x.range(2, 7), 1438);
        x.tell(2, 7, false);
        Check.equal("the first alone", x.range(2, 7), 1240);
        x.addSinger(2, 40, 60);
        Check.equal("one tone", x.range(2, 7), 4040);
        x.addSinger(3, 0, 0);
        Check.equal("the lowest tone", x.range(3, 7), 0);
        x.addSinger(3, 0, 5);
        Check.equal("no more with another singer", x.range(3, 7), 0);
    }

    private static void rangeIsEmpty() {
        ChoirPlanner x = new ChoirPlanner();
        x.addSinger(0, 20, 30);
        x.addSinger(0, 31, 40);
        Check.equal("first above last", x.range(0, 3), -1);
        x.tell(0, 3, false);
        Check.equal("the second alone", x.range(0, 3), 3140);
        x.tell(1, 3, false);
        Check.equal("nobody", x.range(0, 3), -1);
        Check.equal("a voice without singers", x.range(1, 3), -1);
    }

    private static void rangeRefuses() {
        ChoirPlanner x = new ChoirPlanner();
        x.addSinger(0, 20, 30);
        for (int voice : WRONG_VOICES) {
            Check.argumentRefused("voice " + voice, () -> x.range(voice, 0));
        }
        for (int date : WRONG_DATES) {
            Check.argumentRefused("date " + date, () -> x.range(0, date));
        }
        Check.equal("date 30 is one", x.range(0, 30), 2030);
    }
}
