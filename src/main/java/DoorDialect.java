import java.util.NoSuchElementException;

/**
 * A dialect for doors: doors between rooms, whose forms end by declension, case and number, and knocks that
 * agree with them or do not. The promises of each call are told in the project's document, DOC.md.
 */
public final class DoorDialect {
    private static final int DECLENSIONS = 3;
    private static final int GENDERS = 3;
    private static final int NUMBERS = 2;
    private static final int CASES = 4;
    private static final int LETTERS = 26;
    private static final int ROOMS = 6;
    private static final int MEASURES = 2;
    private static final int MOST_DOORS = 8;
    private static final int MOST_THRESHOLDS = 6;
    private static final int MOST_KEYS = 5;
    private static final int MOST_WRONG = 3;
    private static final int MOST_CHANGES = 8;
    private static final int MOST_SIGNS = 60;
    private static final int ALL_THREE = 3;
    private static final int BOTH = 2;
    private static final int NONE = -1;

    private static final String GENDER_LETTERS = "oig";
    private static final String NUMBER_LETTERS = "sd";
    private static final String CASE_LETTERS = "OSAL";
    private static final String VOWELS = "aeiou";

    // A fault tells what a change would throw, so that an order can be tried without an exception.
    private static final int NO_FAULT = 0;
    private static final int ILLEGAL = 1;
    private static final int OUTSIDE = 2;
    private static final int REFUSED = 3;

    private static final int NO_REASON = 0;
    private static final int IS_FULL = 1;
    private static final int IS_SO_ALREADY = 2;
    private static final int LATCH_IS_DOWN = 3;
    private static final int IS_OPEN = 4;
    private static final int IS_NOT_OPEN = 5;
    private static final int LATCH_IS_UP = 6;
    private static final int KEY_DOES_NOT_FIT = 7;

    private static final int DOOR_ORDER = 0;
    private static final int SILL_ORDER = 1;
    private static final int GOVERN_ORDER = 2;
    private static final int SET_ORDER = 3;
    private static final int END_ORDER = 4;
    private static final int KEY_ORDER = 5;
    private static final int KNOCK_ORDER = 6;
    private static final int SHUT_ORDER = 7;
    private static final int FREE_ORDER = 8;
    private static final int ORDERS = 9;

    private final House house;
    private final House saved;
    private final Past past;
    private final Walk walk;
    private final Text text;
    private final Input input;
    private boolean isSaved;
    private int reason;
    private int detail;
    private int malformedAt;
    private int refusedOrder;

    public DoorDialect() {
        house = new House();
        saved = new House();
        past = new Past();
        walk = new Walk();
        text = new Text();
        input = new Input();
        isSaved = false;
        reason = NO_REASON;
        detail = 0;
        malformedAt = NONE;
        refusedOrder = NONE;
    }

    // ---- doors, thresholds, endings, keys

    public int clear() {
        int doors = house.doorCount;
        house.makeNew();
        past.forgetAll();
        return doors;
    }

    public int door(int declension, int gender, boolean isDouble, int one, int other)
            throws IllegalArgumentException, IndexOutOfBoundsException, UnsupportedOperationException {
        throwFault(faultOfDoor(declension, gender, one, other));
        past.add(house);
        return house.addDoor(declension, gender, numberOf(isDouble), one, other);
    }

    public int threshold(int governed) throws IllegalArgumentException, UnsupportedOperationException {
        throwFault(faultOfThreshold(governed));
        past.add(house);
        return house.addThreshold(governed);
    }

    public int govern(int threshold, int governed)
            throws IndexOutOfBoundsException, IllegalArgumentException, UnsupportedOperationException {
        throwFault(faultOfGovern(threshold, governed));
        past.add(house);
        return house.changeGoverned(threshold, governed);
    }

    public int set(int door, int threshold) throws IndexOutOfBoundsException, UnsupportedOperationException {
        throwFault(faultOfSet(door, threshold));
        past.add(house);
        return house.putOn(door, threshold);
    }

    public int tellEnding(int declension, int inCase, boolean isDouble, int letter)
            throws IllegalArgumentException, UnsupportedOperationException {
        throwFault(faultOfEnding(declension, inCase, numberOf(isDouble), letter));
        past.add(house);
        return house.changeLetter(declension, inCase, numberOf(isDouble), letter);
    }

    public int key(int declension, int gender) throws IllegalArgumentException, UnsupportedOperationException {
        throwFault(faultOfKey(declension, gender));
        past.add(house);
        return house.addKey(declension, gender);
    }

    public int doorOf(int door, int what) throws IndexOutOfBoundsException, IllegalArgumentException {
        requireDoor(door);
        Door asked = house.doors[door];
        switch (what) {
            case 0: return asked.declension;
            case 1: return asked.gender;
            case 2: return asked.number;
            case 3: return asked.threshold;
            case 4: return house.caseOf(asked);
            case 5: return asked.wrongKnocks;
            case 6: return asked.isLatched ? 1 : 0;
            case 7: return asked.isOpen ? 1 : 0;
            case 8: return asked.oneRoom;
            case 9: return asked.otherRoom;
            case 10: return asked.knocks;
            default: throw new IllegalArgumentException("a door has no such number");
        }
    }

    public int thresholdOf(int threshold, int what) throws IndexOutOfBoundsException, IllegalArgumentException {
        if (!isBelow(threshold, house.thresholdCount)) {
            throw new IndexOutOfBoundsException("there is no such threshold");
        }
        switch (what) {
            case 0: return house.governed[threshold];
            case 1: return house.doorsOn(threshold);
            default: throw new IllegalArgumentException("a threshold has no such number");
        }
    }

    public char ending(int declension, int inCase, boolean isDouble) throws IllegalArgumentException {
        if (!isBelow(declension, DECLENSIONS) || !isBelow(inCase, CASES)) {
            throw new IllegalArgumentException("there is no such declension or case");
        }
        return house.signAt(declension, inCase, numberOf(isDouble));
    }

    // ---- forms

    public boolean areAlike(int one, int other, boolean isAgain) throws IndexOutOfBoundsException {
        requireDoor(one);
        requireDoor(other);
        return isAgain ? house.areAlikeByNumbers(one, other) : house.areAlikeByLetters(one, other);
    }

    public int couldBe(int door) throws IndexOutOfBoundsException {
        requireDoor(door);
        return house.casesLikeOwn(house.doors[door]);
    }

    public int twins(int door) throws IndexOutOfBoundsException {
        requireDoor(door);
        int alike = 0;
        for (int other = 0; other < house.doorCount; other++) {
            if (house.areAlikeByLetters(door, other)) {
                alike |= 1 << other;
            }
        }
        return alike;
    }

    public int syncretic(int declension) throws IllegalArgumentException {
        requireDeclension(declension);
        int pairs = 0;
        for (int number = 0; number < NUMBERS; number++) {
            pairs += house.likePairs(declension, number);
        }
        return pairs;
    }

    public int often(char letter) throws IllegalArgumentException {
        if (letter < 'a' || letter > 'z') {
            throw new IllegalArgumentException("the letter is not from a to z");
        }
        return house.placesWith(letter - 'a');
    }

    // ---- knocks and keys

    public int knock(int door, int gender, boolean isDouble, int inCase)
            throws IndexOutOfBoundsException, IllegalArgumentException, UnsupportedOperationException {
        throwFault(faultOfKnock(door, gender, inCase));
        past.add(house);
        return house.hearKnock(door, gender, numberOf(isDouble), inCase);
    }

    public int shut(int door) throws IndexOutOfBoundsException, UnsupportedOperationException {
        throwFault(faultOfShut(door));
        past.add(house);
        return house.shutDoor(door);
    }

    public int free(int key, int door) throws IndexOutOfBoundsException, UnsupportedOperationException {
        throwFault(faultOfFree(key, door));
        past.add(house);
        return house.freeDoor(door);
    }

    public int agrees(int door, int gender, boolean isDouble, int inCase)
            throws IndexOutOfBoundsException, IllegalArgumentException {
        requireDoor(door);
        if (!isBelow(gender, GENDERS) || !isBelow(inCase, CASES)) {
            throw new IllegalArgumentException("there is no such gender or case");
        }
        return house.agreement(house.doors[door], gender, numberOf(isDouble), inCase);
    }

    public int keysFor(int door) throws IndexOutOfBoundsException {
        requireDoor(door);
        int fitting = 0;
        for (int key = 0; key < house.keyCount; key++) {
            if (house.fit(key, door) == BOTH) {
                fitting |= 1 << key;
            }
        }
        return fitting;
    }

    // ---- rooms

    public int way(int from, int to, boolean isAgain) throws IndexOutOfBoundsException, NoSuchElementException {
        requireRoom(from);
        requireRoom(to);
        int passed = isAgain ? walk.passedBySets(house, from, to) : walk.passedByRooms(house, from, to);
        if (passed == NONE) {
            throw new NoSuchElementException("there is no way");
        }
        return passed;
    }

    public int reached(int room) throws IndexOutOfBoundsException {
        requireRoom(room);
        return walk.roomsFrom(house, room, NONE);
    }

    public int best(int room) throws IndexOutOfBoundsException, NoSuchElementException {
        requireRoom(room);
        int most = Integer.bitCount(walk.roomsFrom(house, room, NONE));
        int found = NONE;
        for (int door = 0; door < house.doorCount; door++) {
            // An open door adds nothing, so only a door that is not open can come out ahead.
            int rooms = Integer.bitCount(walk.roomsFrom(house, room, door));
            if (rooms > most) {
                most = rooms;
                found = door;
            }
        }
        if (found == NONE) {
            throw new NoSuchElementException("no door leads to one room more");
        }
        return found;
    }

    public int ranked(int measure, int place) throws IllegalArgumentException, NoSuchElementException {
        if (!isBelow(measure, MEASURES)) {
            throw new IllegalArgumentException("there is no such measure");
        }
        for (int door = 0; door < house.doorCount; door++) {
            if (house.doorsAhead(door, measure) == place) {
                return door;
            }
        }
        throw new NoSuchElementException("there is no such place");
    }

    public boolean isRight() {
        return areFormsRight() && areWaysRight() && areDoorsRight();
    }

    // ---- lines and accounts

    public int line(int door) throws IndexOutOfBoundsException {
        requireDoor(door);
        Door written = house.doors[door];
        text.begin();
        for (int place = 0; place < ALL_THREE; place++) {
            text.put(house.formSign(written, place));
        }
        text.putDigit(written.oneRoom);
        text.put('-');
        text.putDigit(written.otherRoom);
        if (written.threshold != NONE) {
            text.put('@');
            text.putDigit(written.threshold);
        }
        if (written.isOpen) {
            text.put('+');
        } else if (written.wrongKnocks > 0) {
            text.put('!');
            text.putDigit(written.wrongKnocks);
        }
        return text.length;
    }

    public int endings(int declension) throws IllegalArgumentException {
        requireDeclension(declension);
        text.begin();
        for (int number = 0; number < NUMBERS; number++) {
            if (number > 0) {
                text.put('/');
            }
            for (int inCase = 0; inCase < CASES; inCase++) {
                text.put(house.signAt(declension, inCase, number));
            }
        }
        return text.length;
    }

    public char character(int index) throws IndexOutOfBoundsException {
        if (!isBelow(index, text.length)) {
            throw new IndexOutOfBoundsException("the line has no such index");
        }
        return text.signs[index];
    }

    public int refusal(boolean isDetail) throws IllegalStateException {
        if (reason == NO_REASON) {
            throw new IllegalStateException("nothing was refused");
        }
        return isDetail ? detail : reason;
    }

    public int account(int what) throws IllegalArgumentException {
        switch (what) {
            case 0: return house.doorCount;
            case 1: return house.thresholdCount;
            case 2: return house.keyCount;
            case 3: return house.openDoors();
            case 4: return house.latchesDown();
            case 5: return house.agreedKnocks + house.wrongKnocks;
            case 6: return house.agreedKnocks;
            case 7: return house.wrongKnocks;
            case 8: return house.fallenLatches;
            case 9: return house.freedDoors;
            case 10: return house.unlikeEndings();
            case 11: return input.length;
            case 12: return past.count;
            default: throw new IllegalArgumentException("there is no such account");
        }
    }

    public double meanKnocks() throws ArithmeticException {
        if (house.doorCount == 0) {
            throw new ArithmeticException("there are no doors");
        }
        return (double) house.knocksAtDoors() / (double) house.doorCount;
    }

    public float agreedShare() throws ArithmeticException {
        int knocks = house.agreedKnocks + house.wrongKnocks;
        if (knocks == 0) {
            throw new ArithmeticException("there were no knocks");
        }
        return (float) house.agreedKnocks / (float) knocks;
    }

    // ---- input

    public int append(int packed) throws IllegalArgumentException, IllegalStateException {
        int added = 0;
        for (int shift = 24; shift >= 0; shift -= 8) {
            int sign = (packed >>> shift) & 255;
            if (sign != 0) {
                if (sign < 32 || sign > 126) {
                    throw new IllegalArgumentException("a byte is not from 32 to 126");
                }
                added++;
            }
        }
        if (input.length + added > MOST_SIGNS) {
            throw new IllegalStateException("there would be too many characters");
        }
        input.addPacked(packed);
        return input.length;
    }

    public int read() throws IllegalArgumentException, UnsupportedOperationException {
        int orders = input.countOrders();
        if (orders == NONE) {
            malformedAt = input.place;
            input.empty();
            throw new IllegalArgumentException("the input is malformed");
        }
        past.stage(house);
        int refused = firstRefused(orders);
        input.empty();
        if (refused != NONE) {
            refusedOrder = refused;
            house.copyFrom(past.staged());
            throw new UnsupportedOperationException("an order is refused");
        }
        past.keepStaged();
        return orders;
    }

    public int errorPosition() throws NoSuchElementException {
        if (malformedAt == NONE) {
            throw new NoSuchElementException("no input was malformed");
        }
        return malformedAt;
    }

    public int refusedItem() throws NoSuchElementException {
        if (refusedOrder == NONE) {
            throw new NoSuchElementException("no input was refused");
        }
        return refusedOrder;
    }

    // ---- undo and snapshot

    public int undo() throws IllegalStateException {
        if (past.count == 0) {
            throw new IllegalStateException("there is no change that can be undone");
        }
        house.copyFrom(past.takeLatest());
        return past.count;
    }

    public int snapshot() {
        saved.copyFrom(house);
        isSaved = true;
        return house.doorCount;
    }

    public int restore() throws IllegalStateException {
        if (!isSaved) {
            throw new IllegalStateException("there is no snapshot");
        }
        house.copyFrom(saved);
        past.forgetAll();
        return house.doorCount;
    }

    // The tests of arguments.

    private static boolean isBelow(int number, int bound) {
        return number >= 0 && number < bound;
    }

    private static int numberOf(boolean isDouble) {
        return isDouble ? 1 : 0;
    }

    private void requireDoor(int door) {
        if (!house.isDoor(door)) {
            throw new IndexOutOfBoundsException("there is no such door");
        }
    }

    private static void requireRoom(int room) {
        if (!isBelow(room, ROOMS)) {
            throw new IndexOutOfBoundsException("there is no such room");
        }
    }

    private static void requireDeclension(int declension) {
        if (!isBelow(declension, DECLENSIONS)) {
            throw new IllegalArgumentException("there is no such declension");
        }
    }

    private static void throwFault(int fault) {
        if (fault == ILLEGAL) {
            throw new IllegalArgumentException("there is nothing such");
        }
        if (fault == OUTSIDE) {
            throw new IndexOutOfBoundsException("there is nothing of that number");
        }
        if (fault == REFUSED) {
            throw new UnsupportedOperationException("it is refused");
        }
    }

    // The faults of the changes, in the order in which they are to be looked for.

    private int refuse(int newReason, int newDetail) {
        reason = newReason;
        detail = newDetail;
        return REFUSED;
    }

    private int faultOfDoor(int declension, int gender, int one, int other) {
        if (!isBelow(declension, DECLENSIONS) || !isBelow(gender, GENDERS) || one == other) {
            return ILLEGAL;
        }
        if (!isBelow(one, ROOMS) || !isBelow(other, ROOMS)) {
            return OUTSIDE;
        }
        return house.doorCount >= MOST_DOORS ? refuse(IS_FULL, MOST_DOORS) : NO_FAULT;
    }

    private int faultOfThreshold(int governed) {
        if (!isBelow(governed, CASES)) {
            return ILLEGAL;
        }
        return house.thresholdCount >= MOST_THRESHOLDS ? refuse(IS_FULL, MOST_THRESHOLDS) : NO_FAULT;
    }

    private int faultOfGovern(int threshold, int governed) {
        if (!isBelow(threshold, house.thresholdCount)) {
            return OUTSIDE;
        }
        if (!isBelow(governed, CASES)) {
            return ILLEGAL;
        }
        return house.governed[threshold] == governed ? refuse(IS_SO_ALREADY, governed) : NO_FAULT;
    }

    private int faultOfSet(int door, int threshold) {
        if (!house.isDoor(door)) {
            return OUTSIDE;
        }
        if (threshold != NONE && !isBelow(threshold, house.thresholdCount)) {
            return OUTSIDE;
        }
        return house.doors[door].threshold == threshold ? refuse(IS_SO_ALREADY, threshold) : NO_FAULT;
    }

    private int faultOfEnding(int declension, int inCase, int number, int letter) {
        if (!isBelow(declension, DECLENSIONS) || !isBelow(inCase, CASES) || !isBelow(letter, LETTERS)) {
            return ILLEGAL;
        }
        return house.letterAt(declension, inCase, number) == letter ? refuse(IS_SO_ALREADY, letter) : NO_FAULT;
    }

    private int faultOfKey(int declension, int gender) {
        if (!isBelow(declension, DECLENSIONS) || !isBelow(gender, GENDERS)) {
            return ILLEGAL;
        }
        int same = house.keyWith(declension, gender);
        if (same != NONE) {
            return refuse(IS_SO_ALREADY, same);
        }
        return house.keyCount >= MOST_KEYS ? refuse(IS_FULL, MOST_KEYS) : NO_FAULT;
    }

    private int faultOfKnock(int door, int gender, int inCase) {
        if (!house.isDoor(door)) {
            return OUTSIDE;
        }
        if (!isBelow(gender, GENDERS) || !isBelow(inCase, CASES)) {
            return ILLEGAL;
        }
        if (house.doors[door].isOpen) {
            return refuse(IS_OPEN, house.openDoors());
        }
        return house.doors[door].isLatched ? refuse(LATCH_IS_DOWN, house.latchesDown()) : NO_FAULT;
    }

    private int faultOfShut(int door) {
        if (!house.isDoor(door)) {
            return OUTSIDE;
        }
        return house.doors[door].isOpen ? NO_FAULT : refuse(IS_NOT_OPEN, house.openDoors());
    }

    private int faultOfFree(int key, int door) {
        if (!isBelow(key, house.keyCount) || !house.isDoor(door)) {
            return OUTSIDE;
        }
        if (!house.doors[door].isLatched) {
            return refuse(LATCH_IS_UP, house.doors[door].wrongKnocks);
        }
        int agreed = house.fit(key, door);
        return agreed == BOTH ? NO_FAULT : refuse(KEY_DOES_NOT_FIT, agreed);
    }

    // The orders of a text that is well formed.

    private int firstRefused(int orders) {
        input.rewind();
        for (int order = 0; order < orders; order++) {
            if (order > 0) {
                input.takeSign(';');
            }
            if (!input.takeOrder() || carryOut() != NO_FAULT) {
                return order;
            }
        }
        return NONE;
    }

    private int carryOut() {
        int[] told = input.values;
        switch (input.order) {
            case DOOR_ORDER: return carryOutDoor(told);
            case SILL_ORDER: return carryOutSill(told);
            case GOVERN_ORDER: return carryOutGovern(told);
            case SET_ORDER: return carryOutSet(told);
            case END_ORDER: return carryOutEnd(told);
            case KEY_ORDER: return carryOutKey(told);
            case KNOCK_ORDER: return carryOutKnock(told);
            case SHUT_ORDER: return carryOutShut(told);
            case FREE_ORDER: return carryOutFree(told);
            default: return ILLEGAL;
        }
    }

    private int carryOutDoor(int[] told) {
        int fault = faultOfDoor(told[0], told[1], told[3], told[4]);
        if (fault == NO_FAULT) {
            house.addDoor(told[0], told[1], told[2], told[3], told[4]);
        }
        return fault;
    }

    private int carryOutSill(int[] told) {
        int fault = faultOfThreshold(told[0]);
        if (fault == NO_FAULT) {
            house.addThreshold(told[0]);
        }
        return fault;
    }

    private int carryOutGovern(int[] told) {
        int fault = faultOfGovern(told[0], told[1]);
        if (fault == NO_FAULT) {
            house.changeGoverned(told[0], told[1]);
        }
        return fault;
    }

    private int carryOutSet(int[] told) {
        int fault = faultOfSet(told[0], told[1]);
        if (fault == NO_FAULT) {
            house.putOn(told[0], told[1]);
        }
        return fault;
    }

    private int carryOutEnd(int[] told) {
        int fault = faultOfEnding(told[0], told[1], told[2], told[3]);
        if (fault == NO_FAULT) {
            house.changeLetter(told[0], told[1], told[2], told[3]);
        }
        return fault;
    }

    private int carryOutKey(int[] told) {
        int fault = faultOfKey(told[0], told[1]);
        if (fault == NO_FAULT) {
            house.addKey(told[0], told[1]);
        }
        return fault;
    }

    private int carryOutKnock(int[] told) {
        int fault = faultOfKnock(told[0], told[1], told[3]);
        if (fault == NO_FAULT) {
            house.hearKnock(told[0], told[1], told[2], told[3]);
        }
        return fault;
    }

    private int carryOutShut(int[] told) {
        int fault = faultOfShut(told[0]);
        if (fault == NO_FAULT) {
            house.shutDoor(told[0]);
        }
        return fault;
    }

    private int carryOutFree(int[] told) {
        int fault = faultOfFree(told[0], told[1]);
        if (fault == NO_FAULT) {
            house.freeDoor(told[1]);
        }
        return fault;
    }

    // The parts of isRight.

    private boolean areFormsRight() {
        for (int one = 0; one < house.doorCount; one++) {
            for (int other = 0; other < house.doorCount; other++) {
                if (house.areAlikeByLetters(one, other) != house.areAlikeByNumbers(one, other)) {
                    return false;
                }
            }
        }
        return true;
    }

    private boolean areWaysRight() {
        for (int from = 0; from < ROOMS; from++) {
            for (int to = 0; to < ROOMS; to++) {
                if (walk.passedByRooms(house, from, to) != walk.passedBySets(house, from, to)) {
                    return false;
                }
            }
        }
        return true;
    }

    private boolean areDoorsRight() {
        for (int door = 0; door < house.doorCount; door++) {
            Door looked = house.doors[door];
            int ownCase = 1 << house.caseOf(looked);
            if ((house.casesLikeOwn(looked) & ownCase) == 0 || (looked.isOpen && looked.isLatched)) {
                return false;
            }
        }
        return true;
    }

    private static final class Door {
        int declension;
        int gender;
        int number;
        int oneRoom;
        int otherRoom;
        int threshold = NONE;
        int wrongKnocks;
        int knocks;
        boolean isLatched;
        boolean isOpen;

        void makeNew(int newDeclension, int newGender, int newNumber, int newOne, int newOther) {
            declension = newDeclension;
            gender = newGender;
            number = newNumber;
            oneRoom = newOne;
            otherRoom = newOther;
            threshold = NONE;
            wrongKnocks = 0;
            knocks = 0;
            isLatched = false;
            isOpen = false;
        }

        void copyFrom(Door from) {
            declension = from.declension;
            gender = from.gender;
            number = from.number;
            oneRoom = from.oneRoom;
            otherRoom = from.otherRoom;
            threshold = from.threshold;
            wrongKnocks = from.wrongKnocks;
            knocks = from.knocks;
            isLatched = from.isLatched;
            isOpen = from.isOpen;
        }
    }

    /** Everything that changes can change. */
    private static final class House {
        final Door[] doors = new Door[MOST_DOORS];
        final int[] governed = new int[MOST_THRESHOLDS];
        final int[] keyDeclensions = new int[MOST_KEYS];
        final int[] keyGenders = new int[MOST_KEYS];
        final int[] letters = new int[DECLENSIONS * CASES * NUMBERS];
        int doorCount;
        int thresholdCount;
        int keyCount;
        int agreedKnocks;
        int wrongKnocks;
        int fallenLatches;
        int freedDoors;

        House() {
            for (int door = 0; door < MOST_DOORS; door++) {
                doors[door] = new Door();
            }
            makeNew();
        }

        void makeNew() {
            doorCount = 0;
            thresholdCount = 0;
            keyCount = 0;
            agreedKnocks = 0;
            wrongKnocks = 0;
            fallenLatches = 0;
            freedDoors = 0;
            for (int declension = 0; declension < DECLENSIONS; declension++) {
                for (int inCase = 0; inCase < CASES; inCase++) {
                    for (int number = 0; number < NUMBERS; number++) {
                        int vowel = (declension + 2 * inCase + number) % 5;
                        letters[letterPlace(declension, inCase, number)] = VOWELS.charAt(vowel) - 'a';
                    }
                }
            }
        }

        void copyFrom(House from) {
            for (int door = 0; door < MOST_DOORS; door++) {
                doors[door].copyFrom(from.doors[door]);
            }
            System.arraycopy(from.governed, 0, governed, 0, MOST_THRESHOLDS);
            System.arraycopy(from.keyDeclensions, 0, keyDeclensions, 0, MOST_KEYS);
            System.arraycopy(from.keyGenders, 0, keyGenders, 0, MOST_KEYS);
            System.arraycopy(from.letters, 0, letters, 0, DECLENSIONS * CASES * NUMBERS);
            doorCount = from.doorCount;
            thresholdCount = from.thresholdCount;
            keyCount = from.keyCount;
            agreedKnocks = from.agreedKnocks;
            wrongKnocks = from.wrongKnocks;
            fallenLatches = from.fallenLatches;
            freedDoors = from.freedDoors;
        }

        boolean isDoor(int door) {
            return isBelow(door, doorCount);
        }

        int addDoor(int declension, int gender, int number, int one, int other) {
            doors[doorCount].makeNew(declension, gender, number, one, other);
            doorCount++;
            return doorCount - 1;
        }

        int addThreshold(int newGoverned) {
            governed[thresholdCount] = newGoverned;
            thresholdCount++;
            return thresholdCount - 1;
        }

        int changeGoverned(int threshold, int newGoverned) {
            int before = governed[threshold];
            governed[threshold] = newGoverned;
            return before;
        }

        int putOn(int door, int threshold) {
            doors[door].threshold = threshold;
            return caseOf(doors[door]);
        }

        int doorsOn(int threshold) {
            int standing = 0;
            for (int door = 0; door < doorCount; door++) {
                if (doors[door].threshold == threshold) {
                    standing++;
                }
            }
            return standing;
        }

        static int letterPlace(int declension, int inCase, int number) {
            return (declension * CASES + inCase) * NUMBERS + number;
        }

        int letterAt(int declension, int inCase, int number) {
            return letters[letterPlace(declension, inCase, number)];
        }

        char signAt(int declension, int inCase, int number) {
            return (char) ('a' + letterAt(declension, inCase, number));
        }

        int changeLetter(int declension, int inCase, int number, int letter) {
            int before = letterAt(declension, inCase, number);
            letters[letterPlace(declension, inCase, number)] = letter;
            return before;
        }

        int placesWith(int letter) {
            int places = 0;
            for (int place = 0; place < letters.length; place++) {
                if (letters[place] == letter) {
                    places++;
                }
            }
            return places;
        }

        int unlikeEndings() {
            int unlike = 0;
            for (int letter = 0; letter < LETTERS; letter++) {
                if (placesWith(letter) > 0) {
                    unlike++;
                }
            }
            return unlike;
        }

        int likePairs(int declension, int number) {
            int pairs = 0;
            for (int one = 0; one < CASES; one++) {
                for (int other = one + 1; other < CASES; other++) {
                    if (letterAt(declension, one, number) == letterAt(declension, other, number)) {
                        pairs++;
                    }
                }
            }
            return pairs;
        }

        int caseOf(Door door) {
            return isBelow(door.threshold, thresholdCount) ? governed[door.threshold] : 0;
        }

        int letterOf(Door door) {
            return letterAt(door.declension, caseOf(door), door.number);
        }

        int casesLikeOwn(Door door) {
            int cases = 0;
            for (int inCase = 0; inCase < CASES; inCase++) {
                if (letterAt(door.declension, inCase, door.number) == letterOf(door)) {
                    cases |= 1 << inCase;
                }
            }
            return cases;
        }

        char formSign(Door door, int place) {
            switch (place) {
                case 0: return GENDER_LETTERS.charAt(door.gender);
                case 1: return NUMBER_LETTERS.charAt(door.number);
                default: return signAt(door.declension, caseOf(door), door.number);
            }
        }

        boolean areAlikeByLetters(int one, int other) {
            for (int place = 0; place < ALL_THREE; place++) {
                if (formSign(doors[one], place) != formSign(doors[other], place)) {
                    return false;
                }
            }
            return true;
        }

        boolean areAlikeByNumbers(int one, int other) {
            return doors[one].gender == doors[other].gender
                    && doors[one].number == doors[other].number
                    && letterOf(doors[one]) == letterOf(doors[other]);
        }

        int agreement(Door door, int gender, int number, int inCase) {
            int agreed = door.gender == gender ? 1 : 0;
            agreed += door.number == number ? 1 : 0;
            agreed += caseOf(door) == inCase ? 1 : 0;
            return agreed;
        }

        int hearKnock(int door, int gender, int number, int inCase) {
            Door knocked = doors[door];
            int agreed = agreement(knocked, gender, number, inCase);
            knocked.knocks++;
            if (agreed == ALL_THREE) {
                agreedKnocks++;
                knocked.isOpen = true;
                knocked.wrongKnocks = 0;
                return agreed;
            }
            wrongKnocks++;
            knocked.wrongKnocks++;
            if (knocked.wrongKnocks == MOST_WRONG) {
                knocked.isLatched = true;
                fallenLatches++;
            }
            return agreed;
        }

        int shutDoor(int door) {
            doors[door].isOpen = false;
            return openDoors();
        }

        int freeDoor(int door) {
            doors[door].isLatched = false;
            doors[door].wrongKnocks = 0;
            freedDoors++;
            return latchesDown();
        }

        int openDoors() {
            int open = 0;
            for (int door = 0; door < doorCount; door++) {
                open += doors[door].isOpen ? 1 : 0;
            }
            return open;
        }

        int latchesDown() {
            int down = 0;
            for (int door = 0; door < doorCount; door++) {
                down += doors[door].isLatched ? 1 : 0;
            }
            return down;
        }

        int knocksAtDoors() {
            int sum = 0;
            for (int door = 0; door < doorCount; door++) {
                sum += doors[door].knocks;
            }
            return sum;
        }

        int addKey(int declension, int gender) {
            keyDeclensions[keyCount] = declension;
            keyGenders[keyCount] = gender;
            keyCount++;
            return keyCount - 1;
        }

        int keyWith(int declension, int gender) {
            for (int key = 0; key < keyCount; key++) {
                if (keyDeclensions[key] == declension && keyGenders[key] == gender) {
                    return key;
                }
            }
            return NONE;
        }

        int fit(int key, int door) {
            int agreed = keyDeclensions[key] == doors[door].declension ? 1 : 0;
            agreed += keyGenders[key] == doors[door].gender ? 1 : 0;
            return agreed;
        }

        int measured(int door, int measure) {
            return measure == 0 ? doors[door].knocks : doors[door].wrongKnocks;
        }

        int doorsAhead(int door, int measure) {
            int own = measured(door, measure);
            int ahead = 0;
            for (int other = 0; other < doorCount; other++) {
                int theirs = measured(other, measure);
                if (theirs > own || (theirs == own && other < door)) {
                    ahead++;
                }
            }
            return ahead;
        }

        int roomBehind(int door, int room) {
            if (!doors[door].isOpen) {
                return NONE;
            }
            if (doors[door].oneRoom == room) {
                return doors[door].otherRoom;
            }
            return doors[door].otherRoom == room ? doors[door].oneRoom : NONE;
        }

        int roomsBeside(int rooms, int asIfOpen) {
            int beside = 0;
            for (int door = 0; door < doorCount; door++) {
                if (doors[door].isOpen || door == asIfOpen) {
                    int one = 1 << doors[door].oneRoom;
                    int other = 1 << doors[door].otherRoom;
                    beside |= (rooms & one) != 0 ? other : 0;
                    beside |= (rooms & other) != 0 ? one : 0;
                }
            }
            return beside;
        }
    }

    /** The changes that can be undone: for each the house before it, in a ring with one slot to spare. */
    private static final class Past {
        private final House[] ring = new House[MOST_CHANGES + 1];
        private int first;
        int count;

        Past() {
            for (int slot = 0; slot < ring.length; slot++) {
                ring[slot] = new House();
            }
            first = 0;
            count = 0;
        }

        void forgetAll() {
            count = 0;
        }

        // The spare slot holds the house before a read, which may still be refused and then must not
        // have cost the oldest change.
        void stage(House house) {
            staged().copyFrom(house);
        }

        House staged() {
            return ring[Math.floorMod(first + count, MOST_CHANGES + 1)];
        }

        void keepStaged() {
            if (count < MOST_CHANGES) {
                count++;
            } else {
                first = Math.floorMod(first + 1, MOST_CHANGES + 1);
            }
        }

        void add(House house) {
            stage(house);
            keepStaged();
        }

        House takeLatest() {
            count--;
            return staged();
        }
    }

    /** The ways through open doors; its rows are kept, so that no call makes new ones. */
    private static final class Walk {
        private final int[] passed = new int[ROOMS];
        private final int[] queue = new int[ROOMS];

        int passedByRooms(House house, int from, int to) {
            for (int room = 0; room < ROOMS; room++) {
                passed[room] = NONE;
            }
            passed[from] = 0;
            queue[0] = from;
            int queued = 1;
            for (int taken = 0; taken < queued && taken < ROOMS; taken++) {
                queued = queueBehind(house, queue[taken], queued);
            }
            return passed[to];
        }

        private int queueBehind(House house, int room, int queuedBefore) {
            int queued = queuedBefore;
            for (int door = 0; door < house.doorCount; door++) {
                int next = house.roomBehind(door, room);
                if (isBelow(next, ROOMS) && passed[next] == NONE && queued < ROOMS) {
                    passed[next] = passed[room] + 1;
                    queue[queued] = next;
                    queued++;
                }
            }
            return queued;
        }

        int passedBySets(House house, int from, int to) {
            int rooms = 1 << from;
            for (int doors = 0; doors < ROOMS; doors++) {
                if ((rooms & (1 << to)) != 0) {
                    return doors;
                }
                rooms |= house.roomsBeside(rooms, NONE);
            }
            return NONE;
        }

        int roomsFrom(House house, int room, int asIfOpen) {
            int rooms = 1 << room;
            for (int doors = 0; doors < ROOMS; doors++) {
                rooms |= house.roomsBeside(rooms, asIfOpen);
            }
            return rooms;
        }
    }

    /** The line. */
    private static final class Text {
        final char[] signs = new char[16];
        int length;

        void begin() {
            length = 0;
        }

        void put(char sign) {
            if (length < signs.length) {
                signs[length] = sign;
                length++;
            }
        }

        void putDigit(int digit) {
            put((char) ('0' + digit));
        }
    }

    /** The input buffer, and a place up to which its orders were taken. */
    private static final class Input {
        private static final int MISFIT = -2;

        final int[] values = new int[5];
        int order;
        int place;
        int length;
        private final char[] signs = new char[MOST_SIGNS];
        private int valueCount;

        void empty() {
            length = 0;
        }

        void rewind() {
            place = 0;
        }

        void addPacked(int packed) {
            for (int shift = 24; shift >= 0; shift -= 8) {
                int sign = (packed >>> shift) & 255;
                if (sign != 0 && length < MOST_SIGNS) {
                    signs[length] = (char) sign;
                    length++;
                }
            }
        }

        /** The number of orders, or NONE if the text is malformed: the place is then the error position. */
        int countOrders() {
            rewind();
            for (int orders = 1; orders <= MOST_SIGNS; orders++) {
                if (!takeOrder()) {
                    return NONE;
                }
                if (place >= length) {
                    return orders;
                }
                if (!takeSign(';')) {
                    return NONE;
                }
            }
            return NONE;
        }

        boolean takeSign(char sign) {
            if (place >= length || signs[place] != sign) {
                return false;
            }
            place++;
            return true;
        }

        // No order's pattern is the beginning of another one's, so the pattern that goes on for longest
        // tells both which order it is and where the text goes wrong.
        boolean takeOrder() {
            int farthest = place;
            for (int tried = 0; tried < ORDERS; tried++) {
                String pattern = patternOf(tried);
                int end = endOfMatch(pattern);
                if (end == place + pattern.length()) {
                    order = tried;
                    place = end;
                    return true;
                }
                farthest = Math.max(farthest, end);
            }
            place = farthest;
            return false;
        }

        private int endOfMatch(String pattern) {
            valueCount = 0;
            for (int index = 0; index < pattern.length(); index++) {
                int end = place + index;
                if (end >= length || !takes(pattern.charAt(index), signs[end])) {
                    return end;
                }
            }
            return place + pattern.length();
        }

        // In a pattern # is a digit, T a digit or "-", G, N and C the letters of a gender, a number and
        // a case, and E an ending; any other sign is itself.
        private static String patternOf(int order) {
            switch (order) {
                case DOOR_ORDER: return "door#GN##";
                case SILL_ORDER: return "sillC";
                case GOVERN_ORDER: return "govern#C";
                case SET_ORDER: return "set#@T";
                case END_ORDER: return "end#CN=E";
                case KEY_ORDER: return "key#G";
                case KNOCK_ORDER: return "knock#:GNC";
                case SHUT_ORDER: return "shut#";
                default: return "free#>#";
            }
        }

        private boolean takes(char wanted, char sign) {
            switch (wanted) {
                case '#': return keepValue(numberIn('0', '9', sign));
                case 'T': return keepValue(sign == '-' ? NONE : numberIn('0', '9', sign));
                case 'G': return keepValue(letterIn(GENDER_LETTERS, sign));
                case 'N': return keepValue(letterIn(NUMBER_LETTERS, sign));
                case 'C': return keepValue(letterIn(CASE_LETTERS, sign));
                case 'E': return keepValue(numberIn('a', 'z', sign));
                default: return wanted == sign;
            }
        }

        private static int numberIn(char first, char last, char sign) {
            return sign >= first && sign <= last ? sign - first : MISFIT;
        }

        private static int letterIn(String letters, char sign) {
            int index = letters.indexOf(sign);
            return index < 0 ? MISFIT : index;
        }

        private boolean keepValue(int value) {
            if (value == MISFIT || valueCount >= values.length) {
                return false;
            }
            values[valueCount] = value;
            valueCount++;
            return true;
        }
    }
}
