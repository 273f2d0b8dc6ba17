import java.util.List;
import java.util.NoSuchElementException;
import java.util.function.Consumer;

/** At least one run for each promise of the document, in its order. */
public final class PromisesTest {
    private static final Class<IllegalArgumentException> ILLEGAL = IllegalArgumentException.class;
    private static final Class<IndexOutOfBoundsException> OUTSIDE = IndexOutOfBoundsException.class;
    private static final Class<NoSuchElementException> NOTHING = NoSuchElementException.class;
    private static final Class<IllegalStateException> STATE = IllegalStateException.class;
    private static final Class<ArithmeticException> DIVISION = ArithmeticException.class;
    private static final Class<UnsupportedOperationException> REFUSED = UnsupportedOperationException.class;

    private static final int LEAST = Integer.MIN_VALUE;
    private static final int MOST = Integer.MAX_VALUE;

    public static void main(String[] args) {
        promise1NewObject();
        promise2Clear();
        promise3Door();
        promise4Threshold();
        promise5Govern();
        promise6Set();
        promise7TellEnding();
        promise8Key();
        promise9DoorOf();
        promise10ThresholdOf();
        promise11Ending();
        promise12AreAlike();
        promise13CouldBe();
        promise14Twins();
        promise15Syncretic();
        promise16Often();
        promise17Knock();
        promise18Shut();
        promise19Free();
        promise20Agrees();
        promise21KeysFor();
        promise22Way();
        promise23Reached();
        promise24Best();
        promise25Ranked();
        promise26IsRight();
        promise27Line();
        promise28Endings();
        promise29Character();
        promise30Refusal();
        promise31Account();
        promise32MeanKnocks();
        promise33AgreedShare();
        promise34Append();
        promise35ReadOrders();
        promise35ReadRefused();
        promise36ErrorPosition();
        promise37RefusedItem();
        promise38Undo();
        promise39Snapshot();
        promise40Restore();
        slotsThatAreUsedAgain();
        longPasts();
        Check.end("PromisesTest");
    }

    // A single oak door of declension 0 in the case 0, and a knock that it agrees with.
    private static DoorDialect withDoors(int... rooms) {
        DoorDialect x = new DoorDialect();
        for (int i = 0; i < rooms.length; i += 2) {
            x.door(0, 0, false, rooms[i], rooms[i + 1]);
        }
        return x;
    }

    private static void open(DoorDialect x, int... doors) {
        for (int door : doors) {
            x.knock(door, 0, false, 0);
        }
    }

    private static void latch(DoorDialect x, int door) {
        for (int i = 0; i < 3; i++) {
            x.knock(door, 1, true, 3);
        }
    }

    private static void promise1NewObject() {
        DoorDialect x = new DoorDialect();
        for (int what = 0; what <= 12; what++) {
            Check.due("new account(" + what + ")", x.account(what), what == 10 ? 5 : 0);
        }
        Check.throwsDue("new refusal", STATE, () -> x.refusal(false));
        Check.throwsDue("new undo", STATE, () -> x.undo());
        Check.throwsDue("new restore", STATE, () -> x.restore());
        Check.throwsDue("new errorPosition", NOTHING, () -> x.errorPosition());
        Check.throwsDue("new refusedItem", NOTHING, () -> x.refusedItem());
        Check.throwsDue("new character", OUTSIDE, () -> x.character(0));
    }

    private static void promise2Clear() {
        DoorDialect x = new DoorDialect();
        String asNew = Check.all(x);
        Check.due("clear of nothing", x.clear(), 0);
        x.door(0, 0, false, 0, 1);
        x.door(1, 1, true, 2, 3);
        x.threshold(2);
        x.set(1, 0);
        x.key(0, 0);
        x.tellEnding(0, 0, false, 25);
        latch(x, 0);
        x.free(0, 0);
        open(x, 0);
        Check.throwsDue("malformed", ILLEGAL, () -> Check.read(x, "do?"));
        Check.throwsDue("refused", REFUSED, () -> Check.read(x, "shut0;shut9"));
        Check.throwsDue("already open", REFUSED, () -> x.knock(0, 0, false, 0));
        x.snapshot();
        int length = x.line(0);
        Check.append(x, "sill");
        Check.due("clear", x.clear(), 2);
        Check.due("the buffer after clear", x.account(11), 4);
        Check.due("changes after clear", x.account(12), 0);
        Check.due("order after clear", Check.read(x, "O"), 1);
        Check.due("undo after clear", x.undo(), 0);
        Check.due("all after clear", Check.all(x), asNew);
        Check.throwsDue("undo after clear", STATE, () -> x.undo());
        Check.due("errorPosition after clear", x.errorPosition(), 2);
        Check.due("refusedItem after clear", x.refusedItem(), 1);
        Check.due("reason after clear", x.refusal(false), 4);
        Check.due("detail after clear", x.refusal(true), 1);
        Check.due("line after clear", Check.lineOf(x, length), "osz0-1+");
        Check.due("restore after clear", x.restore(), 2);
        Check.due("cleared ending restored", x.ending(0, 0, false), 'z');
    }

    private static void promise3Door() {
        DoorDialect x = new DoorDialect();
        Check.due("door", x.door(2, 1, true, 5, 0), 0);
        int[] due = {2, 1, 1, -1, 0, 0, 0, 0, 5, 0, 0};
        for (int what = 0; what < due.length; what++) {
            Check.due("doorOf(0, " + what + ")", x.doorOf(0, what), due[what]);
        }
        for (int bad : new int[] {-1, 3, LEAST, MOST}) {
            Check.throwsDue("declension " + bad, ILLEGAL, () -> x.door(bad, 0, false, 0, 1));
            Check.throwsDue("gender " + bad, ILLEGAL, () -> x.door(0, bad, false, 0, 1));
        }
        for (int bad : new int[] {-1, 6, LEAST, MOST}) {
            Check.throwsDue("one " + bad, OUTSIDE, () -> x.door(0, 0, false, bad, 1));
            Check.throwsDue("other " + bad, OUTSIDE, () -> x.door(0, 0, false, 1, bad));
            Check.throwsDue("both " + bad, ILLEGAL, () -> x.door(0, 0, false, bad, bad));
            Check.throwsDue("gender first", ILLEGAL, () -> x.door(0, 3, false, bad, 1));
        }
        Check.throwsDue("one room", ILLEGAL, () -> x.door(0, 0, false, 3, 3));
        Check.throwsDue("no refusal", STATE, () -> x.refusal(false));
        for (int door = 1; door < 8; door++) {
            Check.due("the same door again", x.door(2, 1, true, 5, 0), door);
        }
        Check.refusedDue("door 8", x, 1, 8, () -> x.door(0, 0, false, 0, 1));
        Check.due("doors", x.account(0), 8);
        Check.throwsDue("rooms before fullness", OUTSIDE, () -> x.door(0, 0, false, 0, 6));
        Check.throwsDue("gender before fullness", ILLEGAL, () -> x.door(0, 3, false, 0, 6));
        Check.due("changes", x.account(12), 8);
        x.undo();
        Check.due("door after undo", x.door(0, 2, false, 0, 1), 7);
        Check.due("gender of it", x.doorOf(7, 1), 2);
    }

    private static void promise4Threshold() {
        DoorDialect x = new DoorDialect();
        for (int bad : new int[] {-1, 4, LEAST, MOST}) {
            Check.throwsDue("threshold " + bad, ILLEGAL, () -> x.threshold(bad));
        }
        for (int threshold = 0; threshold < 6; threshold++) {
            Check.due("threshold", x.threshold(threshold % 4), threshold);
            Check.due("governed", x.thresholdOf(threshold, 0), threshold % 4);
        }
        Check.refusedDue("threshold 6", x, 1, 6, () -> x.threshold(0));
        Check.throwsDue("case before fullness", ILLEGAL, () -> x.threshold(4));
        Check.due("thresholds", x.account(1), 6);
        Check.due("changes", x.account(12), 6);
    }

    private static void promise5Govern() {
        DoorDialect x = withDoors(0, 1);
        Check.throwsDue("no threshold", OUTSIDE, () -> x.govern(0, 0));
        x.threshold(1);
        x.threshold(1);
        x.set(0, 1);
        for (int bad : new int[] {-1, 2, LEAST, MOST}) {
            Check.throwsDue("threshold " + bad, OUTSIDE, () -> x.govern(bad, 4));
        }
        for (int bad : new int[] {-1, 4, LEAST, MOST}) {
            Check.throwsDue("case " + bad, ILLEGAL, () -> x.govern(1, bad));
        }
        Check.refusedDue("the same case", x, 2, 1, () -> x.govern(1, 1));
        Check.due("govern", x.govern(1, 3), 1);
        Check.due("governed then", x.thresholdOf(1, 0), 3);
        Check.due("the other one", x.thresholdOf(0, 0), 1);
        Check.due("the door's case", x.doorOf(0, 4), 3);
        Check.due("govern again", x.govern(1, 0), 3);
        Check.refusedDue("the case 0", x, 2, 0, () -> x.govern(1, 0));
        open(x, 0);
        x.govern(1, 2);
        Check.due("an open door stays open", x.doorOf(0, 7), 1);
        Check.due("its knocks stay", x.doorOf(0, 10), 1);
    }

    private static void promise6Set() {
        DoorDialect x = withDoors(0, 1, 1, 2);
        x.threshold(2);
        x.threshold(3);
        for (int bad : new int[] {-1, 2, LEAST, MOST}) {
            Check.throwsDue("door " + bad, OUTSIDE, () -> x.set(bad, 0));
        }
        for (int bad : new int[] {-2, 2, LEAST, MOST}) {
            Check.throwsDue("threshold " + bad, OUTSIDE, () -> x.set(0, bad));
        }
        Check.refusedDue("none already", x, 2, -1, () -> x.set(0, -1));
        Check.due("set", x.set(0, 1), 3);
        Check.due("its threshold", x.doorOf(0, 3), 1);
        Check.due("the other door's", x.doorOf(1, 3), -1);
        Check.refusedDue("the same already", x, 2, 1, () -> x.set(0, 1));
        Check.due("another one", x.set(0, 0), 2);
        Check.refusedDue("threshold 0 already", x, 2, 0, () -> x.set(0, 0));
        Check.due("two on one", x.set(1, 0), 2);
        Check.due("none", x.set(0, -1), 0);
    }

    private static void promise7TellEnding() {
        DoorDialect x = new DoorDialect();
        for (int bad : new int[] {-1, LEAST, MOST}) {
            Check.throwsDue("declension " + bad, ILLEGAL, () -> x.tellEnding(bad, 0, false, 3));
            Check.throwsDue("case " + bad, ILLEGAL, () -> x.tellEnding(0, bad, false, 3));
            Check.throwsDue("letter " + bad, ILLEGAL, () -> x.tellEnding(0, 0, false, bad));
        }
        Check.throwsDue("declension 3", ILLEGAL, () -> x.tellEnding(3, 0, false, 3));
        Check.throwsDue("case 4", ILLEGAL, () -> x.tellEnding(0, 4, false, 3));
        Check.throwsDue("letter 26", ILLEGAL, () -> x.tellEnding(0, 0, false, 26));
        // 2 + 2 * 3 + 1 leaves 4 by 5: a u.
        Check.refusedDue("u already", x, 2, 20, () -> x.tellEnding(2, 3, true, 20));
        Check.due("tellEnding", x.tellEnding(2, 3, true, 25), 20);
        Check.due("the ending", x.ending(2, 3, true), 'z');
        Check.due("that of single doors", x.ending(2, 3, false), 'o');
        Check.due("that of another case", x.ending(2, 2, true), 'i');
        Check.due("that of another declension", x.ending(1, 3, true), 'o');
        Check.refusedDue("z already", x, 2, 25, () -> x.tellEnding(2, 3, true, 25));
        Check.due("back", x.tellEnding(2, 3, true, 0), 25);
    }

    private static void promise8Key() {
        DoorDialect x = new DoorDialect();
        for (int bad : new int[] {-1, 3, LEAST, MOST}) {
            Check.throwsDue("declension " + bad, ILLEGAL, () -> x.key(bad, 0));
            Check.throwsDue("gender " + bad, ILLEGAL, () -> x.key(0, bad));
        }
        int[][] keys = {{0, 1}, {1, 0}, {2, 2}, {0, 0}, {1, 1}};
        for (int key = 0; key < 5; key++) {
            Check.due("key", x.key(keys[key][0], keys[key][1]), key);
        }
        Check.refusedDue("a sixth key", x, 1, 5, () -> x.key(2, 0));
        for (int key = 0; key < 5; key++) {
            int same = key;
            Check.refusedDue("the same key", x, 2, same, () -> x.key(keys[same][0], keys[same][1]));
        }
        Check.due("keys", x.account(2), 5);
        x.undo();
        Check.refusedDue("the same key among four", x, 2, 1, () -> x.key(1, 0));
        Check.due("another fifth one", x.key(2, 0), 4);
    }

    private static void promise9DoorOf() {
        DoorDialect x = new DoorDialect();
        Check.throwsDue("no door", OUTSIDE, () -> x.doorOf(0, 0));
        x.door(1, 2, false, 4, 3);
        x.door(2, 0, true, 0, 5);
        x.threshold(3);
        x.threshold(1);
        x.set(0, 1);
        latch(x, 1);
        x.knock(0, 0, true, 0);
        int[] zero = {1, 2, 0, 1, 1, 1, 0, 0, 4, 3, 1};
        int[] one = {2, 0, 1, -1, 0, 3, 1, 0, 0, 5, 3};
        for (int what = 0; what <= 10; what++) {
            Check.due("doorOf(0, " + what + ")", x.doorOf(0, what), zero[what]);
            Check.due("doorOf(1, " + what + ")", x.doorOf(1, what), one[what]);
        }
        x.knock(0, 2, false, 1);
        Check.due("wrong knocks forgotten", x.doorOf(0, 5), 0);
        Check.due("open", x.doorOf(0, 7), 1);
        Check.due("knocks", x.doorOf(0, 10), 2);
        for (int bad : new int[] {-1, 11, LEAST, MOST}) {
            Check.throwsDue("what " + bad, ILLEGAL, () -> x.doorOf(0, bad));
        }
        for (int bad : new int[] {-1, 2, 8, LEAST, MOST}) {
            Check.throwsDue("door " + bad, OUTSIDE, () -> x.doorOf(bad, 11));
        }
    }

    private static void promise10ThresholdOf() {
        DoorDialect x = withDoors(0, 1, 1, 2, 2, 3);
        Check.throwsDue("no threshold", OUTSIDE, () -> x.thresholdOf(0, 0));
        x.threshold(2);
        x.threshold(3);
        x.set(0, 1);
        x.set(2, 1);
        Check.due("governed 0", x.thresholdOf(0, 0), 2);
        Check.due("governed 1", x.thresholdOf(1, 0), 3);
        Check.due("doors on 0", x.thresholdOf(0, 1), 0);
        Check.due("doors on 1", x.thresholdOf(1, 1), 2);
        x.set(0, -1);
        Check.due("doors on 1 then", x.thresholdOf(1, 1), 1);
        for (int bad : new int[] {-1, 2, LEAST, MOST}) {
            Check.throwsDue("what " + bad, ILLEGAL, () -> x.thresholdOf(1, bad));
            Check.throwsDue("threshold " + bad, OUTSIDE, () -> x.thresholdOf(bad, bad));
        }
    }

    private static void promise11Ending() {
        DoorDialect x = new DoorDialect();
        for (int declension = 0; declension < 3; declension++) {
            for (int inCase = 0; inCase < 4; inCase++) {
                for (int number = 0; number < 2; number++) {
                    char vowel = "aeiou".charAt((declension + 2 * inCase + number) % 5);
                    Check.due("ending", x.ending(declension, inCase, number == 1), vowel);
                }
            }
        }
        for (int bad : new int[] {-1, 4, LEAST, MOST}) {
            Check.throwsDue("declension " + bad, ILLEGAL, () -> x.ending(bad, 0, false));
            Check.throwsDue("case " + bad, ILLEGAL, () -> x.ending(0, bad, true));
        }
        Check.throwsDue("declension 3", ILLEGAL, () -> x.ending(3, 0, false));
    }

    private static void promise12AreAlike() {
        DoorDialect x = new DoorDialect();
        x.door(0, 0, false, 0, 1);
        x.door(0, 0, false, 2, 3);
        x.door(0, 1, false, 0, 1);
        x.door(0, 0, true, 0, 1);
        x.door(1, 0, false, 0, 1);
        x.tellEnding(0, 0, true, 0);
        for (boolean isAgain : new boolean[] {false, true}) {
            Check.due("itself", x.areAlike(0, 0, isAgain), true);
            Check.due("the same form", x.areAlike(0, 1, isAgain), true);
            Check.due("another gender", x.areAlike(0, 2, isAgain), false);
            Check.due("another number", x.areAlike(0, 3, isAgain), false);
            Check.due("another ending", x.areAlike(4, 0, isAgain), false);
            for (int bad : new int[] {-1, 5, LEAST, MOST}) {
                Check.throwsDue("one " + bad, OUTSIDE, () -> x.areAlike(bad, 0, isAgain));
                Check.throwsDue("other " + bad, OUTSIDE, () -> x.areAlike(0, bad, isAgain));
            }
        }
        x.tellEnding(1, 0, false, 0);
        Check.due("alike by an ending", x.areAlike(0, 4, false), true);
        Check.due("alike by an ending, again", x.areAlike(0, 4, true), true);
        x.threshold(1);
        x.set(0, 0);
        Check.due("unlike by a case", x.areAlike(0, 4, false), false);
        Check.due("unlike by a case, again", x.areAlike(0, 4, true), false);
    }

    private static void promise13CouldBe() {
        DoorDialect x = withDoors(0, 1);
        x.door(0, 0, true, 0, 1);
        Check.due("couldBe", x.couldBe(0), 1);
        x.threshold(3);
        x.set(0, 0);
        Check.due("couldBe by a threshold", x.couldBe(0), 8);
        x.tellEnding(0, 1, false, 'e' - 'a');
        Check.due("couldBe two cases", x.couldBe(0), 10);
        Check.due("couldBe of a double one", x.couldBe(1), 1);
        x.tellEnding(0, 0, false, 'e' - 'a');
        x.tellEnding(0, 2, false, 'e' - 'a');
        Check.due("couldBe all cases", x.couldBe(0), 15);
        x.door(2, 1, false, 0, 1);
        x.tellEnding(2, 3, false, 'i' - 'a');
        Check.due("couldBe of another declension", x.couldBe(2), 9);
        for (int bad : new int[] {-1, 3, LEAST, MOST}) {
            Check.throwsDue("door " + bad, OUTSIDE, () -> x.couldBe(bad));
        }
    }

    private static void promise14Twins() {
        DoorDialect x = withDoors(0, 1, 1, 2, 2, 3);
        x.door(0, 0, true, 0, 1);
        x.door(0, 2, false, 0, 1);
        Check.due("twins", x.twins(1), 7);
        Check.due("twins of a double one", x.twins(3), 8);
        Check.due("twins of a glass one", x.twins(4), 16);
        x.threshold(1);
        x.set(1, 0);
        Check.due("twins then", x.twins(0), 5);
        Check.due("twins of the other one", x.twins(1), 2);
        for (int bad : new int[] {-1, 5, LEAST, MOST}) {
            Check.throwsDue("door " + bad, OUTSIDE, () -> x.twins(bad));
        }
    }

    private static void promise15Syncretic() {
        DoorDialect x = new DoorDialect();
        for (int declension = 0; declension < 3; declension++) {
            Check.due("syncretic at first", x.syncretic(declension), 0);
        }
        x.tellEnding(1, 0, false, 25);
        x.tellEnding(1, 3, false, 25);
        Check.due("one pair", x.syncretic(1), 1);
        x.tellEnding(1, 1, false, 25);
        Check.due("three pairs", x.syncretic(1), 3);
        x.tellEnding(1, 2, false, 25);
        Check.due("six pairs", x.syncretic(1), 6);
        x.tellEnding(1, 2, true, 25);
        Check.due("single and double are no pair", x.syncretic(1), 6);
        x.tellEnding(1, 0, true, 25);
        Check.due("both numbers together", x.syncretic(1), 7);
        Check.due("another declension", x.syncretic(0), 0);
        for (int bad : new int[] {-1, 3, LEAST, MOST}) {
            Check.throwsDue("declension " + bad, ILLEGAL, () -> x.syncretic(bad));
        }
    }

    private static void promise16Often() {
        DoorDialect x = new DoorDialect();
        Check.due("often a", x.often('a'), 4);
        Check.due("often e", x.often('e'), 5);
        Check.due("often z", x.often('z'), 0);
        x.tellEnding(0, 0, false, 25);
        x.tellEnding(2, 3, true, 25);
        Check.due("often z then", x.often('z'), 2);
        Check.due("often a then", x.often('a'), 3);
        for (char bad : new char[] {'a' - 1, 'z' + 1, 'A', 0, 65535}) {
            Check.throwsDue("often " + (int) bad, ILLEGAL, () -> x.often(bad));
        }
    }

    private static void promise17Knock() {
        DoorDialect x = new DoorDialect();
        x.door(0, 2, true, 0, 1);
        x.door(0, 2, true, 1, 2);
        x.threshold(1);
        x.set(0, 0);
        for (int bad : new int[] {-1, 2, LEAST, MOST}) {
            Check.throwsDue("door " + bad, OUTSIDE, () -> x.knock(bad, 9, true, 9));
        }
        for (int bad : new int[] {-1, 4, LEAST, MOST}) {
            Check.throwsDue("gender " + bad, ILLEGAL, () -> x.knock(0, bad, true, 1));
            Check.throwsDue("case " + bad, ILLEGAL, () -> x.knock(0, 2, true, bad));
        }
        Check.throwsDue("gender 3", ILLEGAL, () -> x.knock(0, 3, true, 1));
        Check.due("none of three", x.knock(0, 1, false, 0), 0);
        Check.due("two of three", x.knock(0, 2, true, 0), 2);
        Check.due("two wrong knocks", x.doorOf(0, 5), 2);
        Check.due("no latch yet", x.doorOf(0, 6), 0);
        Check.due("three of three", x.knock(0, 2, true, 1), 3);
        Check.due("open", x.doorOf(0, 7), 1);
        Check.due("forgotten", x.doorOf(0, 5), 0);
        Check.refusedDue("an open door", x, 4, 1, () -> x.knock(0, 2, true, 1));
        Check.throwsDue("gender before open", ILLEGAL, () -> x.knock(0, 3, true, 1));
        Check.due("one of three", x.knock(1, 2, false, 1), 1);
        Check.due("one of three again", x.knock(1, 0, true, 1), 1);
        Check.due("not down", x.doorOf(1, 6), 0);
        Check.due("the third wrong one", x.knock(1, 0, false, 0), 1);
        Check.due("down", x.doorOf(1, 6), 1);
        Check.due("fallen", x.account(8), 1);
        Check.refusedDue("a latch that is down", x, 3, 1, () -> x.knock(1, 2, true, 0));
        Check.due("a refused knock is none", x.doorOf(1, 10), 3);
        Check.due("nor is it counted", x.account(5), 6);
        Check.due("still three wrong ones", x.doorOf(1, 5), 3);
        x.door(0, 0, false, 0, 1);
        latch(x, 2);
        Check.refusedDue("of two latches", x, 3, 2, () -> x.knock(1, 2, true, 0));
    }

    private static void promise18Shut() {
        DoorDialect x = withDoors(0, 1, 1, 2, 2, 3);
        open(x, 0, 2);
        for (int bad : new int[] {-1, 3, LEAST, MOST}) {
            Check.throwsDue("door " + bad, OUTSIDE, () -> x.shut(bad));
        }
        Check.refusedDue("not open", x, 5, 2, () -> x.shut(1));
        Check.due("shut", x.shut(0), 1);
        Check.due("not open then", x.doorOf(0, 7), 0);
        Check.refusedDue("not open any more", x, 5, 1, () -> x.shut(0));
        Check.due("no wrong knocks", x.doorOf(0, 5), 0);
        Check.due("the knock is told further", x.doorOf(0, 10), 1);
        Check.due("the last one", x.shut(2), 0);
        Check.refusedDue("none is open", x, 5, 0, () -> x.shut(2));
        Check.due("it opens again", x.knock(2, 0, false, 0), 3);
    }

    private static void promise19Free() {
        DoorDialect x = withDoors(0, 1, 1, 2);
        x.key(0, 0);
        x.key(0, 1);
        x.key(1, 1);
        x.key(1, 0);
        for (int bad : new int[] {-1, 4, LEAST, MOST}) {
            Check.throwsDue("key " + bad, OUTSIDE, () -> x.free(bad, 0));
        }
        for (int bad : new int[] {-1, 2, LEAST, MOST}) {
            Check.throwsDue("door " + bad, OUTSIDE, () -> x.free(0, bad));
        }
        Check.refusedDue("not down", x, 6, 0, () -> x.free(0, 0));
        x.knock(0, 0, true, 0);
        Check.refusedDue("not down with a wrong knock", x, 6, 1, () -> x.free(2, 0));
        x.knock(0, 0, true, 0);
        x.knock(0, 0, true, 0);
        latch(x, 1);
        Check.refusedDue("the declension alone", x, 7, 1, () -> x.free(1, 0));
        Check.refusedDue("neither", x, 7, 0, () -> x.free(2, 0));
        Check.refusedDue("the gender alone", x, 7, 1, () -> x.free(3, 0));
        Check.due("free", x.free(0, 0), 1);
        Check.due("lifted", x.doorOf(0, 6), 0);
        Check.due("forgotten", x.doorOf(0, 5), 0);
        Check.due("not open by it", x.doorOf(0, 7), 0);
        Check.due("freed", x.account(9), 1);
        Check.due("free the other one", x.free(0, 1), 0);
        Check.due("freed both", x.account(9), 2);
        Check.due("it hears knocks again", x.knock(0, 0, false, 0), 3);
    }

    private static void promise20Agrees() {
        DoorDialect x = new DoorDialect();
        x.door(1, 1, true, 0, 1);
        x.threshold(2);
        x.set(0, 0);
        for (int gender = 0; gender < 3; gender++) {
            for (int inCase = 0; inCase < 4; inCase++) {
                int due = (gender == 1 ? 1 : 0) + (inCase == 2 ? 1 : 0);
                Check.due("agrees, single", x.agrees(0, gender, false, inCase), due);
                Check.due("agrees, double", x.agrees(0, gender, true, inCase), due + 1);
            }
        }
        Check.due("it is no knock", x.account(5), 0);
        x.knock(0, 1, true, 2);
        Check.due("agrees, open", x.agrees(0, 1, true, 2), 3);
        x.shut(0);
        latch(x, 0);
        Check.due("agrees, latched", x.agrees(0, 1, true, 2), 3);
        for (int bad : new int[] {-1, 4, LEAST, MOST}) {
            Check.throwsDue("door " + bad, OUTSIDE, () -> x.agrees(bad, 9, true, 9));
            Check.throwsDue("gender " + bad, ILLEGAL, () -> x.agrees(0, bad, true, 0));
            Check.throwsDue("case " + bad, ILLEGAL, () -> x.agrees(0, 0, true, bad));
        }
        Check.throwsDue("gender 3", ILLEGAL, () -> x.agrees(0, 3, true, 0));
    }

    private static void promise21KeysFor() {
        DoorDialect x = new DoorDialect();
        x.door(1, 2, true, 0, 1);
        x.door(2, 1, true, 0, 1);
        Check.due("no keys", x.keysFor(0), 0);
        x.key(1, 1);
        x.key(2, 2);
        Check.due("no key that fits", x.keysFor(0), 0);
        x.key(2, 1);
        x.key(1, 2);
        Check.due("the key 3", x.keysFor(0), 8);
        Check.due("the key 2", x.keysFor(1), 4);
        x.door(1, 1, false, 2, 3);
        Check.due("the key 0", x.keysFor(2), 1);
        for (int bad : new int[] {-1, 3, LEAST, MOST}) {
            Check.throwsDue("door " + bad, OUTSIDE, () -> x.keysFor(bad));
        }
    }

    private static void promise22Way() {
        DoorDialect x = withDoors(0, 1, 2, 1, 3, 2, 3, 4, 4, 5, 5, 2);
        for (boolean isAgain : new boolean[] {false, true}) {
            Check.throwsDue("no way", NOTHING, () -> x.way(0, 1, isAgain));
            for (int room = 0; room < 6; room++) {
                Check.due("the same room", x.way(room, room, isAgain), 0);
            }
        }
        open(x, 0, 1, 2, 3, 4);
        for (boolean isAgain : new boolean[] {false, true}) {
            Check.due("one after the other", x.way(0, 5, isAgain), 5);
            Check.due("and back", x.way(5, 0, isAgain), 5);
            Check.due("one door", x.way(2, 1, isAgain), 1);
        }
        open(x, 5);
        for (boolean isAgain : new boolean[] {false, true}) {
            Check.due("a shorter way", x.way(0, 5, isAgain), 3);
            Check.due("round about", x.way(4, 1, isAgain), 3);
        }
        x.shut(1);
        for (boolean isAgain : new boolean[] {false, true}) {
            Check.throwsDue("shut", NOTHING, () -> x.way(0, 5, isAgain));
            for (int bad : new int[] {-1, 6, LEAST, MOST}) {
                Check.throwsDue("from " + bad, OUTSIDE, () -> x.way(bad, 0, isAgain));
                Check.throwsDue("to " + bad, OUTSIDE, () -> x.way(0, bad, isAgain));
                Check.throwsDue("both " + bad, OUTSIDE, () -> x.way(bad, bad, isAgain));
            }
        }
    }

    private static void promise23Reached() {
        DoorDialect x = withDoors(5, 4, 4, 3, 3, 2, 2, 1, 1, 0);
        Check.due("itself", x.reached(3), 8);
        open(x, 0, 1, 3);
        Check.due("three rooms", x.reached(5), 56);
        Check.due("two rooms", x.reached(1), 6);
        Check.due("one room", x.reached(0), 1);
        open(x, 2, 4);
        Check.due("all rooms", x.reached(0), 63);
        Check.due("all rooms from the other end", x.reached(5), 63);
        for (int bad : new int[] {-1, 6, LEAST, MOST}) {
            Check.throwsDue("room " + bad, OUTSIDE, () -> x.reached(bad));
        }
    }

    private static void promise24Best() {
        DoorDialect x = withDoors(0, 1, 0, 2, 2, 3, 4, 5, 0, 3);
        Check.due("the lowest of like ones", x.best(0), 0);
        Check.due("from another room", x.best(2), 1);
        Check.due("from a room of one door", x.best(5), 3);
        open(x, 2);
        Check.due("the most rooms more", x.best(0), 1);
        latch(x, 1);
        Check.due("a latch that is down", x.best(0), 1);
        open(x, 4);
        Check.due("the rest", x.best(0), 0);
        Check.due("from the far side", x.best(1), 0);
        open(x, 0);
        Check.throwsDue("no room more", NOTHING, () -> x.best(0));
        Check.due("elsewhere", x.best(4), 3);
        for (int bad : new int[] {-1, 6, LEAST, MOST}) {
            Check.throwsDue("room " + bad, OUTSIDE, () -> x.best(bad));
        }
        Check.throwsDue("no doors", NOTHING, () -> new DoorDialect().best(0));
    }

    private static void promise25Ranked() {
        DoorDialect x = withDoors(0, 1, 0, 1, 0, 1, 0, 1);
        open(x, 1);
        x.knock(2, 1, false, 0);
        x.knock(3, 1, false, 0);
        x.knock(3, 0, false, 0);
        x.shut(3);
        x.knock(3, 0, false, 0);
        int[][] due = {{3, 1, 2, 0}, {2, 0, 1, 3}};
        for (int measure = 0; measure < 2; measure++) {
            for (int place = 0; place < 4; place++) {
                Check.due("ranked(" + measure + ", " + place + ")", x.ranked(measure, place), due[measure][place]);
            }
        }
        for (int bad : new int[] {-1, 2, LEAST, MOST}) {
            Check.throwsDue("measure " + bad, ILLEGAL, () -> x.ranked(bad, 9));
        }
        for (int bad : new int[] {-1, 4, LEAST, MOST}) {
            Check.throwsDue("place " + bad, NOTHING, () -> x.ranked(0, bad));
        }
        Check.throwsDue("no doors", NOTHING, () -> new DoorDialect().ranked(0, 0));
    }

    private static void promise26IsRight() {
        DoorDialect x = new DoorDialect();
        Check.due("a new one is right", x.isRight(), true);
        Check.read(x, "door0os12;door0os23;sillS;set0@0;end0Ss=a;key0o");
        open(x, 1);
        latch(x, 0);
        x.tellEnding(0, 0, false, 7);
        Check.due("a house is right", x.isRight(), true);
        x.free(0, 0);
        x.knock(0, 0, false, 1);
        Check.due("with open doors", x.isRight(), true);
        String before = Check.all(x);
        x.isRight();
        Check.due("it changes nothing", Check.all(x), before);
    }

    private static void promise27Line() {
        DoorDialect x = new DoorDialect();
        x.door(0, 0, false, 1, 2);
        x.door(1, 1, true, 5, 0);
        x.door(2, 2, false, 3, 4);
        Check.due("line", Check.lineOf(x, x.line(0)), "osa1-2");
        Check.due("line of a double one", Check.lineOf(x, x.line(1)), "idi5-0");
        Check.due("line of a glass one", Check.lineOf(x, x.line(2)), "gsi3-4");
        x.threshold(0);
        x.threshold(1);
        x.set(0, 0);
        x.knock(0, 1, false, 0);
        x.knock(0, 1, false, 0);
        Check.due("the document's line", Check.lineOf(x, x.line(0)), "osa1-2@0!2");
        Check.due("its length", x.line(0), 10);
        x.knock(0, 1, false, 0);
        Check.due("a latch that is down", Check.lineOf(x, x.line(0)), "osa1-2@0!3");
        x.knock(1, 1, true, 0);
        Check.due("an open door", Check.lineOf(x, x.line(1)), "idi5-0+");
        x.set(1, 1);
        Check.due("an open door on a threshold", Check.lineOf(x, x.line(1)), "idu5-0@1+");
        for (int bad : new int[] {-1, 3, LEAST, MOST}) {
            Check.throwsDue("door " + bad, OUTSIDE, () -> x.line(bad));
        }
        Check.due("the line stays", Check.lineOf(x, 9), "idu5-0@1+");
        x.undo();
        Check.due("the line is not undone", Check.lineOf(x, 9), "idu5-0@1+");
        x.line(2);
        Check.throwsDue("nothing is left of a longer line", OUTSIDE, () -> x.character(6));
    }

    private static void promise28Endings() {
        DoorDialect x = new DoorDialect();
        Check.due("the document's endings", Check.lineOf(x, x.endings(0)), "aiue/eoai");
        Check.due("declension 1", Check.lineOf(x, x.endings(1)), "eoai/iueo");
        Check.due("declension 2", Check.lineOf(x, x.endings(2)), "iueo/oaiu");
        x.tellEnding(1, 2, true, 25);
        Check.due("another ending", Check.lineOf(x, x.endings(1)), "eoai/iuzo");
        Check.due("their length", x.endings(1), 9);
        for (int bad : new int[] {-1, 3, LEAST, MOST}) {
            Check.throwsDue("declension " + bad, ILLEGAL, () -> x.endings(bad));
        }
        Check.due("the line stays", Check.lineOf(x, 9), "eoai/iuzo");
    }

    private static void promise29Character() {
        DoorDialect x = withDoors(0, 5);
        Check.throwsDue("an empty line", OUTSIDE, () -> x.character(0));
        int length = x.line(0);
        Check.due("the first one", x.character(0), 'o');
        Check.due("the last one", x.character(length - 1), '5');
        for (int bad : new int[] {-1, 6, LEAST, MOST}) {
            Check.throwsDue("index " + bad, OUTSIDE, () -> x.character(bad));
        }
        x.snapshot();
        x.endings(0);
        x.restore();
        Check.due("the line is not saved", x.character(8), 'i');
    }

    private static void promise30Refusal() {
        DoorDialect x = withDoors(0, 1);
        Check.throwsDue("no reason", STATE, () -> x.refusal(false));
        Check.throwsDue("no detail", STATE, () -> x.refusal(true));
        x.snapshot();
        Check.refusedDue("shut", x, 5, 0, () -> x.shut(0));
        Check.refusedDue("set", x, 2, -1, () -> x.set(0, -1));
        Check.throwsDue("no refusal", OUTSIDE, () -> x.shut(1));
        Check.due("the refusal stays", x.refusal(false), 2);
        x.undo();
        Check.due("it is not undone", x.refusal(true), -1);
        x.restore();
        Check.due("it is not saved", x.refusal(false), 2);
    }

    private static void promise31Account() {
        DoorDialect x = withDoors(0, 1, 1, 2, 2, 3, 3, 4);
        x.threshold(0);
        x.threshold(1);
        x.key(0, 0);
        open(x, 0, 1);
        x.shut(1);
        latch(x, 2);
        x.free(0, 2);
        latch(x, 2);
        x.knock(3, 1, false, 0);
        latch(x, 1);
        Check.append(x, "shut0");
        x.tellEnding(0, 0, false, 25);
        int[] due = {4, 2, 1, 1, 2, 12, 2, 10, 3, 1, 6, 5, 8};
        for (int what = 0; what < due.length; what++) {
            Check.due("account(" + what + ")", x.account(what), due[what]);
        }
        for (int bad : new int[] {-1, 13, LEAST, MOST}) {
            Check.throwsDue("account " + bad, ILLEGAL, () -> x.account(bad));
        }
    }

    private static void promise32MeanKnocks() {
        DoorDialect x = new DoorDialect();
        Check.throwsDue("no doors", DIVISION, () -> x.meanKnocks());
        x.door(0, 0, false, 0, 1);
        Check.due("no knocks", x.meanKnocks(), 0.0);
        x.door(0, 0, false, 0, 1);
        x.door(0, 0, false, 0, 1);
        latch(x, 0);
        open(x, 1);
        Check.due("four thirds", x.meanKnocks(), 4.0 / 3.0);
        x.undo();
        Check.due("one", x.meanKnocks(), 1.0);
    }

    private static void promise33AgreedShare() {
        DoorDialect x = withDoors(0, 1, 1, 2);
        Check.throwsDue("no knocks", DIVISION, () -> x.agreedShare());
        x.knock(0, 1, false, 0);
        Check.due("none", x.agreedShare(), 0.0f);
        x.knock(0, 1, false, 0);
        open(x, 0);
        Check.due("a third", x.agreedShare(), 1.0f / 3.0f);
        open(x, 1);
        Check.due("a half", x.agreedShare(), 0.5f);
    }

    private static void promise34Append() {
        DoorDialect x = new DoorDialect();
        Check.due("nothing", x.append(0), 0);
        Check.due("four", x.append(0x73686f73), 4);
        Check.due("skipped bytes", x.append(0x20007e00), 6);
        for (int bad : new int[] {31, 127, 128, 255, 1}) {
            for (int shift = 0; shift < 32; shift += 8) {
                int packed = bad << shift | 0x20202020 & ~(255 << shift);
                Check.throwsDue("append " + packed, ILLEGAL, () -> x.append(packed));
            }
        }
        Check.due("none was added", x.account(11), 6);
        for (int i = 0; i < 13; i++) {
            x.append(0x20202020);
        }
        Check.throwsDue("61", STATE, () -> x.append(0x20202000));
        Check.throwsDue("a bad byte first", ILLEGAL, () -> x.append(0x2020201f));
        Check.due("58", x.account(11), 58);
        Check.due("60", x.append(0x20000020), 60);
        Check.due("nothing more", x.append(0), 60);
        Check.throwsDue("61 then", STATE, () -> x.append(0x20));
        Check.due("it is no change", x.account(12), 0);
        DoorDialect y = new DoorDialect();
        y.append('s' << 24 | 'i');
        y.append('l' << 16 | 'l' << 8);
        y.append('O');
        Check.due("in their order", y.read(), 1);
    }

    private static void promise35ReadOrders() {
        DoorDialect x = new DoorDialect();
        Check.due("orders", Check.read(x, "door0os12;door2gd50;door1is34;sillL;sillA;key1i;key0o"), 7);
        Check.due("one change", x.account(12), 1);
        Check.due("an empty buffer", x.account(11), 0);
        Check.due("door 0", Check.lineOf(x, x.line(0)), "osa1-2");
        Check.due("door 1", Check.lineOf(x, x.line(1)), "gdo5-0");
        Check.due("door 2", Check.lineOf(x, x.line(2)), "ise3-4");
        Check.due("sillL", x.thresholdOf(0, 0), 3);
        Check.due("sillA", x.thresholdOf(1, 0), 2);
        Check.due("key0o", x.keysFor(0), 2);
        Check.due("orders", Check.read(x, "govern1S;set0@1;set2@0;set2@-;end0Ss=z;knock0:osS"), 6);
        Check.due("door 0 then", Check.lineOf(x, x.line(0)), "osz1-2@1+");
        Check.due("door 2 then", Check.lineOf(x, x.line(2)), "ise3-4");
        Check.due("orders", Check.read(x, "shut0;knock2:gdL;knock2:odA;knock2:isS;free0>2;knock2:osO"), 6);
        Check.due("shut0", Check.lineOf(x, x.line(0)), "osz1-2@1");
        Check.due("door 2 at last", Check.lineOf(x, x.line(2)), "ise3-4!1");
        Check.due("freed", x.account(9), 1);
        Check.due("a full buffer", Check.read(new DoorDialect(),
                "door0os12;knock0:osO;shut0;knock0:osO;shut0;knock0:osO;sillO"), 7);
        DoorDialect y = new DoorDialect();
        Check.due("unlike numbers in an order", Check.read(y, "door0is54;door1gd23;door2os04;sillA;sillO;key2i;key0g"), 7);
        Check.due("door0is54", Check.lineOf(y, y.line(0)), "isa5-4");
        Check.due("door1gd23", Check.lineOf(y, y.line(1)), "gdi2-3");
        Check.due("declensions", y.doorOf(0, 0) + 10 * y.doorOf(1, 0) + 100 * y.doorOf(2, 0), 210);
        Check.refusedDue("key2i", y, 2, 0, () -> y.key(2, 1));
        Check.refusedDue("key0g", y, 2, 1, () -> y.key(0, 2));
        Check.due("orders", Check.read(y, "govern0L;govern1S;set2@0;end2Ls=d;knock2:gdS;knock0:isO"), 6);
        Check.due("the order shut0", Check.read(y, "shut0"), 1);
        Check.due("govern0L", y.thresholdOf(0, 0), 3);
        Check.due("govern1S", y.thresholdOf(1, 0), 1);
        Check.due("knock2:gdS", Check.lineOf(y, y.line(2)), "osd0-4@0!1");
        Check.due("shut0", Check.lineOf(y, y.line(0)), "isa5-4");
        Check.due("more orders", Check.read(y, "knock1:gdO;knock0:isO;shut1;knock2:osO;knock2:osO"), 5);
        Check.due("shut1", y.account(3), 1);
        Check.due("knock2", y.doorOf(2, 6), 1);
        Check.due("one order", Check.read(y, "key2o;free2>2"), 2);
        Check.due("free2>2", y.account(9), 1);
        Check.due("undo of all of them", x.undo(), 2);
        Check.due("door 0 before", Check.lineOf(x, x.line(0)), "osz1-2@1+");
    }

    private static DoorDialect withDoorAndKey() {
        DoorDialect x = withDoors(0, 1);
        x.key(1, 0);
        return x;
    }

    private static void promise35ReadRefused() {
        String before = Check.all(withDoorAndKey());
        Object[][] refused = {
            {"sillO;sillO;sillO;sillO;sillO;sillO;sillO", 6, 1, 6},
            {"knock0:osO;shut0;shut0", 2, 5, 0},
            {"knock0:osO;knock0:osO", 1, 4, 1},
            {"knock0:isO;knock0:isO;knock0:isO;knock0:osO", 3, 3, 1},
            {"knock0:isO;knock0:isO;knock0:isO;free0>0", 3, 7, 1},
            {"knock0:isO;free0>0", 1, 6, 1},
            {"key0o;key0o", 1, 2, 1},
            {"set0@-", 0, 2, -1},
            {"sillA;govern0A", 1, 2, 2},
            {"end0Os=b;end0Os=b", 1, 2, 1},
        };
        for (Object[] row : refused) {
            DoorDialect x = withDoorAndKey();
            String text = (String) row[0];
            Check.refusedDue(text, x, (Integer) row[2], (Integer) row[3], () -> Check.read(x, text));
            Check.due(text + ": refusedItem", x.refusedItem(), row[1]);
            Check.due(text + ": nothing is changed", Check.all(x), before);
        }
        String[] thrown = {"door3os12", "door0os11", "door0os16", "door0os61", "shut1", "shut9", "govern0O",
            "set1@-", "set0@0", "end3Os=a", "key9o", "knock8:osO", "free1>0", "free0>7", "sillO;set0@1"};
        for (String text : thrown) {
            DoorDialect x = withDoorAndKey();
            Check.refusedDue("a key again", x, 2, 0, () -> x.key(1, 0));
            Check.refusedDue(text, x, 2, 0, () -> Check.read(x, text));
            Check.due(text + ": refusedItem", x.refusedItem(), text.startsWith("sill") ? 1 : 0);
            Check.due(text + ": nothing is changed", Check.all(x), before);
        }
        DoorDialect x = withDoorAndKey();
        for (int i = 0; i < 8; i++) {
            x.threshold(0);
            x.undo();
            x.tellEnding(0, 0, false, 10 + i);
        }
        Check.throwsDue("refused with eight changes", REFUSED, () -> Check.read(x, "sillO;shut0"));
        for (int i = 7; i >= 0; i--) {
            Check.due("undo after it", x.undo(), i);
        }
        Check.due("the oldest one is undone too", x.ending(0, 0, false), 'a');
    }

    private static void promise36ErrorPosition() {
        String before = Check.all(withDoors(0, 1));
        Object[][] malformed = {
            {"", 0}, {"x", 0}, {";", 0}, {" sillO", 0}, {"D", 0}, {"d", 1}, {"doxr", 2}, {"door", 4},
            {"dooro", 4}, {"door-", 4}, {"door0x", 5}, {"door0O", 5}, {"door0oo", 6}, {"door0os", 7},
            {"door0osx", 7}, {"door0os1", 8}, {"door0os1-", 8}, {"door0os12x", 9}, {"door0os12;", 10},
            {"door0os12;;", 10}, {"s", 1}, {"sx", 1}, {"si", 2}, {"sello", 2}, {"sillo", 4}, {"sillO ", 5},
            {"sillX", 4}, {"g", 1}, {"governO", 6}, {"govern0", 7}, {"govern0x", 7}, {"govern00", 7},
            {"se", 2}, {"set0-", 4}, {"set0@", 5}, {"set0@x", 5}, {"set0@--", 6}, {"set0@00", 6}, {"setx", 3},
            {"end0s", 4}, {"end0Oo", 5}, {"end0Os:", 6}, {"end0Os=", 7}, {"end0Os=A", 7}, {"end0Os={", 7},
            {"end0Os=`", 7}, {"end0Os=az", 8}, {"k", 1}, {"kx", 1}, {"kn", 2}, {"keyo", 3}, {"key0s", 4},
            {"key0oo", 5}, {"knock0", 6}, {"knock0osO", 6}, {"knock0:so", 7}, {"knock0:oS", 8},
            {"knock0:oss", 9}, {"knock0:osO:", 10}, {"sh", 2}, {"shut", 4}, {"shut:", 4}, {"shut00", 5},
            {"f", 1}, {"free0", 5}, {"free0:0", 5}, {"free0>", 6}, {"free0>-", 6}, {"free0>00", 7},
            {"shut0;s", 7}, {"shut9;shutx", 10}, {"sillO;knock0:osO;end", 20},
            {"sillO;sillO;sillO;sillO;sillO;sillO;sillO;sillO;sillO;sillO;", 60},
            {"sillO;sillO;sillO;sillO;sillO;sillO;sillO;sillO;sillO;sill;O", 58},
        };
        for (Object[] row : malformed) {
            DoorDialect x = withDoors(0, 1);
            String text = (String) row[0];
            Check.throwsDue("\"" + text + "\"", ILLEGAL, () -> Check.read(x, text));
            Check.due("\"" + text + "\": errorPosition", x.errorPosition(), row[1]);
            Check.due("\"" + text + "\": nothing is changed", Check.all(x), before);
        }
        DoorDialect x = withDoors(0, 1);
        Check.throwsDue("malformed", ILLEGAL, () -> Check.read(x, "shut0;shut"));
        Check.throwsDue("refused later", REFUSED, () -> Check.read(x, "shut0"));
        Check.read(x, "sillO");
        x.undo();
        x.snapshot();
        x.restore();
        x.clear();
        Check.due("it stays", x.errorPosition(), 10);
    }

    private static void promise37RefusedItem() {
        DoorDialect x = withDoors(0, 1);
        Check.throwsDue("nothing refused", NOTHING, () -> x.refusedItem());
        Check.throwsDue("a refused call", REFUSED, () -> x.shut(0));
        Check.throwsDue("malformed", ILLEGAL, () -> Check.read(x, "shut"));
        Check.throwsDue("no read was refused", NOTHING, () -> x.refusedItem());
        Check.throwsDue("refused", REFUSED, () -> Check.read(x, "sillO;sillO;shut0;shut0"));
        Check.due("the third one", x.refusedItem(), 2);
        Check.throwsDue("malformed later", ILLEGAL, () -> Check.read(x, "shut"));
        Check.read(x, "sillO");
        x.undo();
        x.clear();
        Check.due("it stays", x.refusedItem(), 2);
        Check.throwsDue("the first one refused", REFUSED, () -> Check.read(x, "shut0;sillO"));
        Check.due("the first one", x.refusedItem(), 0);
    }

    private static void promise38Undo() {
        List<Consumer<DoorDialect>> changes = List.of(
            x -> x.door(0, 0, false, 0, 1), x -> x.threshold(1), x -> x.govern(0, 2), x -> x.set(0, 0),
            x -> x.tellEnding(0, 2, false, 25), x -> x.key(0, 0), x -> x.knock(0, 0, false, 2),
            x -> x.shut(0), x -> Check.read(x, "knock0:isA;knock0:isA;knock0:isA"), x -> x.free(0, 0),
            x -> x.knock(0, 1, true, 1));
        for (int made = 0; made <= changes.size(); made++) {
            DoorDialect all = changed(changes, made);
            Check.due("changes that can be undone", all.account(12), Math.min(made, 8));
            for (int left = made - 1; left >= 0 && left >= made - 8; left--) {
                Check.due("undo", all.undo(), Math.min(made, 8) - made + left);
            }
            Check.throwsDue("only eight", STATE, () -> all.undo());
            for (int undone = 1; undone <= Math.min(made, 8); undone++) {
                DoorDialect x = changed(changes, made);
                for (int i = 0; i < undone; i++) {
                    x.undo();
                }
                Check.due(made + " changes, and " + undone + " undone", withoutChanges(x),
                        withoutChanges(changed(changes, made - undone)));
            }
        }
        DoorDialect x = changed(changes, 3);
        x.undo();
        x.undo();
        x.undo();
        Check.throwsDue("nothing to undo", STATE, () -> x.undo());
        x.threshold(0);
        Check.due("a new change after undo", x.account(12), 1);
        Check.throwsDue("a refused change", REFUSED, () -> x.govern(0, 0));
        x.snapshot();
        x.endings(0);
        Check.due("is none, nor is a snapshot or a line", x.undo(), 0);
    }

    private static DoorDialect changed(List<Consumer<DoorDialect>> changes, int made) {
        DoorDialect x = new DoorDialect();
        for (Consumer<DoorDialect> change : changes.subList(0, made)) {
            change.accept(x);
        }
        return x;
    }

    private static String withoutChanges(DoorDialect x) {
        // The number of changes that can be undone is the one account that undo itself may tell otherwise.
        String all = Check.all(x);
        String[] parts = all.split(" ", 14);
        parts[12] = "";
        return String.join(" ", parts);
    }

    private static void promise39Snapshot() {
        DoorDialect x = new DoorDialect();
        Check.due("of nothing", x.snapshot(), 0);
        x.door(0, 0, false, 0, 1);
        x.door(0, 0, false, 0, 1);
        Check.due("in place of it", x.snapshot(), 2);
        Check.due("it is no change", x.account(12), 2);
        x.undo();
        Check.due("undo leaves it", x.restore(), 2);
        open(x, 0);
        Check.due("it was not told of later changes", x.restore(), 2);
        Check.due("not open", x.doorOf(0, 7), 0);
    }

    private static void promise40Restore() {
        DoorDialect x = new DoorDialect();
        Check.throwsDue("no snapshot", STATE, () -> x.restore());
        Check.read(x, "door0os12;door1is34;sillL;set1@0;key0o;end0Os=q;knock0:osO");
        x.knock(1, 0, true, 0);
        x.snapshot();
        String saved = withoutChanges(x);
        x.clear();
        x.door(2, 2, true, 0, 5);
        x.threshold(1);
        x.key(2, 2);
        Check.due("restore", x.restore(), 2);
        Check.due("all that", withoutChanges(x), saved);
        Check.throwsDue("no undo then", STATE, () -> x.undo());
        x.shut(0);
        Check.due("undo of a later change", x.undo(), 0);
        x.shut(0);
        x.set(1, -1);
        Check.append(x, "shut");
        Check.due("again", x.restore(), 2);
        Check.due("the buffer stays", x.account(11), 4);
        Check.due("changes", x.account(12), 0);
        Check.due("an order then", Check.read(x, "0"), 1);
    }

    /** Doors, thresholds and keys that were undone or cleared leave nothing to those that come after them. */
    private static void slotsThatAreUsedAgain() {
        for (int way = 0; way < 3; way++) {
            DoorDialect x = new DoorDialect();
            x.snapshot();
            Check.read(x, "door2gd45;door0os12;door1id03;sillS;set0@0;set1@0");
            Check.read(x, "key0o;key1i;end0Ss=q;knock1:osS;knock0:osO");
            Check.read(x, "knock2:osA;knock2:osA;knock2:osA;knock0:osO");
            if (way == 0) {
                x.clear();
            } else if (way == 1) {
                x.restore();
            } else {
                x.undo();
                x.undo();
                x.undo();
            }
            for (int what = 0; what <= 12; what++) {
                Check.due("account(" + what + ") of what is gone", x.account(what), what == 10 ? 5 : 0);
            }
            x.threshold(3);
            Check.due("none stands on it", x.thresholdOf(0, 1), 0);
            Check.due("none is reached", x.reached(1), 2);
            Check.throwsDue("nor is one best", NOTHING, () -> x.best(1));
            Check.throwsDue("nor is one ranked", NOTHING, () -> x.ranked(0, 0));
            for (int door = 0; door < 3; door++) {
                Check.due("a door then", x.door(door, 1, false, 1, 0), door);
                int[] due = {door, 1, 0, -1, 0, 0, 0, 0, 1, 0, 0};
                for (int what = 0; what < due.length; what++) {
                    Check.due("doorOf(" + door + ", " + what + ") then", x.doorOf(door, what), due[what]);
                }
            }
            Check.due("no keys then", x.keysFor(0), 0);
            Check.due("a key then", x.key(1, 1), 0);
            Check.due("it fits", x.keysFor(1), 1);
        }
    }

    /** The changes that can be undone go round and round in what holds them. */
    private static void longPasts() {
        DoorDialect x = new DoorDialect();
        x.door(1, 2, true, 3, 4);
        for (int change = 0; change < 40; change++) {
            x.tellEnding(1, 1, true, change % 2 == 0 ? change % 13 : 13 + change % 13);
            for (int undone = 0; change % 5 == 4 && undone < 3; undone++) {
                x.undo();
            }
        }
        char[] endings = new char[8];
        int letter = x.ending(1, 1, true) - 'a';
        while (x.account(12) < 8) {
            letter = (letter + 7) % 26;
            x.tellEnding(1, 1, true, letter);
        }
        for (int i = 0; i < 20; i++) {
            endings[i % 8] = x.ending(1, 1, true);
            letter = (letter + 7) % 26;
            x.tellEnding(1, 1, true, letter);
            Check.due("still eight", x.account(12), 8);
        }
        for (int i = 19; i >= 12; i--) {
            Check.due("undo", x.undo(), i - 12);
            Check.due("the ending before", x.ending(1, 1, true), endings[i % 8]);
            Check.due("the door", Check.lineOf(x, x.line(0)).substring(0, 2), "gd");
            Check.due("its declension", x.doorOf(0, 0), 1);
        }
        Check.throwsDue("no more", STATE, () -> x.undo());
    }
}
