/** The sentences of the promises 1 to 11: doors, thresholds, endings, keys. */
final class BoundariesOfDoors {
    private BoundariesOfDoors() {
    }

    static void hold() {
        newObject();
        clear();
        door();
        threshold();
        govern();
        set();
        tellEnding();
        key();
        doorOf();
        doorOfNumbers();
        thresholdOf();
        ending();
    }

    private static void newObject() {
        Runs.holds("Promise 1", "Creates a house without doors, thresholds and keys.", """
                account({0..9}) = 0
                account(10) = 5
                account({11, 12}) = 0
                doorOf(0, 0) ! IndexOutOfBoundsException
                thresholdOf(0, 0) ! IndexOutOfBoundsException
                door(0, 0, false, 0, 1) = 0
                set(0, 0) ! IndexOutOfBoundsException
                set(0, -1) ! UnsupportedOperationException 2 -1
                keysFor(0) = 0
                3 * knock(0, 1, false, 0) = 2
                free(0, 0) ! IndexOutOfBoundsException
                """);
    }

    private static void clear() {
        String full = """
                8 * door(2, 2, true, 5, 4) = 0..7
                6 * threshold(3) = 0..5
                key({1, 2}, {1, 2}) = 0..3
                key(0, 0) = 4
                set({0..7}, 5) = 3
                tellEnding(0, 0, false, 25) = 0
                tellEnding(2, 3, true, 25) = 20
                knock(0, 2, true, 3) = 3
                3 * knock({1, 2}, 0, false, 0) = 0
                free(3, 1) = 1
                """;
        String asNew = """
                account({0..9}) = 0
                account(10) = 5
                account(12) = 0
                undo() ! IllegalStateException
                doorOf(0, 0) ! IndexOutOfBoundsException
                thresholdOf(0, 0) ! IndexOutOfBoundsException
                endings(0) = "aiue/eoai"
                endings(1) = "eoai/iueo"
                endings(2) = "iueo/oaiu"
                often('z') = 0
                meanKnocks() ! ArithmeticException
                agreedShare() ! ArithmeticException
                reached(5) = 32
                way(4, 5, {false, true}) ! NoSuchElementException
                ranked({0, 1}, 0) ! NoSuchElementException
                8 * door(0, 0, false, 0, 1) = 0..7
                doorOf({0, 7}, 3) = -1
                doorOf({0..7}, {5, 6, 7, 10}) = 0
                keysFor({0..7}) = 0
                set(0, 0) ! IndexOutOfBoundsException
                6 * threshold(0) = 0..5
                thresholdOf({0..5}, 1) = 0
                key({1, 2}, {1, 2}) = 0..3
                key(0, 0) = 4
                """;
        String words = "Makes everything as in a new object, except the input buffer, the error position, the refused"
                + " item, the refusal, the line and the snapshot.";
        Runs.holds("Promise 2", words, "clear() = 0\n" + asNew);
        Runs.holds("Promise 2", words, full + "clear() = 8\n" + asNew);
        Runs.holds("Promise 2", words, """
                door(0, 0, false, 0, 1) = 0
                threshold(1) = 0
                snapshot() = 1
                door(0, 0, false, 1, 2) = 1
                read "shut?" ! IllegalArgumentException at 4
                read "shut0" ! UnsupportedOperationException order 0 refusal 5 0
                set(1, -1) ! UnsupportedOperationException 2 -1
                line(1) = "osa1-2"
                append "sil" = 3
                clear() = 2
                account(11) = 3
                errorPosition() = 4
                refusedItem() = 0
                refusal({false, true}) = 2, -1
                character({0..5}) = 'o', 's', 'a', '1', '-', '2'
                character(6) ! IndexOutOfBoundsException
                read "lO" = 1
                thresholdOf(0, 0) = 0
                clear() = 0
                restore() = 1
                thresholdOf(0, 0) = 1
                clear() = 1
                restore() = 1
                """);
        Runs.holds("Promise 2", "Returns how many doors there were.", """
                clear() = 0
                door(0, 0, false, 0, 1) = 0
                clear() = 1
                7 * door(0, 0, false, 0, 1) = 0..6
                clear() = 7
                8 * door(0, 0, false, 0, 1) = 0..7
                clear() = 8
                clear() = 0
                """);
    }

    private static void door() {
        Runs.holds("Promise 3", "Lets a door come.", """
                account(0) = 0
                door(1, 2, true, 3, 4) = 0
                account(0) = 1
                doorOf(0, {0..10}) = 1, 2, 1, -1, 0, 0, 0, 0, 3, 4, 0
                """);
        Runs.holds("Promise 3", "its declension", """
                door({0, 1, 2}, 0, false, 0, 1) = 0, 1, 2
                doorOf({0, 1, 2}, 0) = 0, 1, 2
                """);
        Runs.holds("Promise 3", "its gender", """
                door(0, {0, 1, 2}, false, 0, 1) = 0, 1, 2
                doorOf({0, 1, 2}, 1) = 0, 1, 2
                """);
        Runs.holds("Promise 3", "whether it is double", """
                door(0, 0, {false, true}, 0, 1) = 0, 1
                doorOf({0, 1}, 2) = 0, 1
                """);
        Runs.holds("Promise 3", "the one room", """
                door(0, 0, false, {0, 5}, 3) = 0, 1
                doorOf({0, 1}, 8) = 0, 5
                """);
        Runs.holds("Promise 3", "the other room", """
                door(0, 0, false, 3, {0, 5}) = 0, 1
                doorOf({0, 1}, 9) = 0, 5
                """);
        Runs.holds("Promise 3", "Returns its number.", """
                door(0, 0, false, 0, 1) = 0
                door(0, 0, false, 0, 1) = 1
                6 * door(0, 0, false, 0, 1) = 2..7
                undo() = 7
                undo() = 6
                door(0, 0, false, 0, 1) = 6
                clear() = 7
                door(0, 0, false, 0, 1) = 0
                """);
        Runs.holds("Promise 3", "Throws `IllegalArgumentException` if there is no such declension or gender, or both rooms"
                + " are one", """
                door({-1, 3, LEAST, MOST}, 0, false, 0, 1) ! IllegalArgumentException
                door(0, {-1, 3, LEAST, MOST}, false, 0, 1) ! IllegalArgumentException
                door(0, 0, {false, true}, 0, 0) ! IllegalArgumentException
                door(0, 0, false, 1, 1) ! IllegalArgumentException
                door(0, 0, false, 5, 5) ! IllegalArgumentException
                // Rooms that are not there are one, too, and this is checked first.
                door(0, 0, false, 6, 6) ! IllegalArgumentException
                door(0, 0, false, -1, -1) ! IllegalArgumentException
                door(3, 0, false, 6, 7) ! IllegalArgumentException
                door(0, 3, false, -1, 0) ! IllegalArgumentException
                account(0) = 0
                8 * door(0, 0, false, 0, 5) = 0..7
                door(3, 0, false, 0, 1) ! IllegalArgumentException
                door(0, -1, false, 0, 1) ! IllegalArgumentException
                door(0, 0, false, 5, 5) ! IllegalArgumentException
                refusal(false) ! IllegalStateException
                """);
        Runs.holds("Promise 3", "Throws `IndexOutOfBoundsException` if there is no such room, for either", """
                door(0, 0, false, {-1, 6, LEAST, MOST}, 0) ! IndexOutOfBoundsException
                door(0, 0, false, {-1, 6, LEAST, MOST}, 5) ! IndexOutOfBoundsException
                door(0, 0, false, 0, {-1, 6, LEAST, MOST}) ! IndexOutOfBoundsException
                door(0, 0, false, 5, {-1, 6, LEAST, MOST}) ! IndexOutOfBoundsException
                door(0, 0, false, -1, 6) ! IndexOutOfBoundsException
                account(0) = 0
                door(0, 0, false, {0, 5}, {1, 4}) = 0..3
                4 * door(0, 0, false, 0, 5) = 4..7
                door(0, 0, false, 6, 0) ! IndexOutOfBoundsException
                door(0, 0, false, 0, -1) ! IndexOutOfBoundsException
                refusal(false) ! IllegalStateException
                """);
        Runs.holds("Promise 3", "Throws `UnsupportedOperationException` if it is refused for the reason 1; the refusal is"
                + " then kept", """
                7 * door(0, 0, false, 0, 1) = 0..6
                account(0) = 7
                door(2, 2, true, 5, 4) = 7
                account(0) = 8
                door(0, 0, false, 0, 1) ! UnsupportedOperationException 1 8
                door(2, 2, true, 5, 4) ! UnsupportedOperationException 1 8
                account(0) = 8
                refusal({false, true}) = 1, 8
                undo() = 7
                door(1, 1, true, 1, 0) = 7
                refusal({false, true}) = 1, 8
                """);
    }

    private static void threshold() {
        Runs.holds("Promise 4", "Lets a threshold come.", """
                account(1) = 0
                threshold(2) = 0
                account(1) = 1
                thresholdOf(0, {0, 1}) = 2, 0
                """);
        Runs.holds("Promise 4", "the case that it governs", """
                threshold({0..3}) = 0..3
                thresholdOf({0..3}, 0) = 0..3
                """);
        Runs.holds("Promise 4", "Returns its number.", """
                6 * threshold(3) = 0..5
                undo() = 5
                threshold(0) = 5
                clear() = 0
                threshold(0) = 0
                """);
        Runs.holds("Promise 4", "Throws `IllegalArgumentException` if there is no such case", """
                threshold({-1, 4, LEAST, MOST}) ! IllegalArgumentException
                account(1) = 0
                6 * threshold(3) = 0..5
                threshold({-1, 4}) ! IllegalArgumentException
                refusal(false) ! IllegalStateException
                """);
        Runs.holds("Promise 4", "Throws `UnsupportedOperationException` if it is refused for the reason 1; the refusal is"
                + " then kept", """
                5 * threshold(3) = 0..4
                threshold(1) = 5
                threshold({0..3}) ! UnsupportedOperationException 1 6
                account(1) = 6
                undo() = 5
                refusal({false, true}) = 1, 6
                threshold(2) = 5
                """);
    }

    private static void govern() {
        Runs.holds("Promise 5", "Tells the case that a threshold governs.", """
                door(0, 0, false, 0, 1) = 0
                threshold({1, 1}) = 0, 1
                set(0, 1) = 1
                govern(1, 3) = 1
                thresholdOf({0, 1}, 0) = 1, 3
                doorOf(0, 4) = 3
                govern(1, 0) = 3
                doorOf(0, 4) = 0
                """);
        Runs.holds("Promise 5", "the threshold", """
                6 * threshold(1) = 0..5
                govern({0, 5}, 2) = 1
                thresholdOf({0..5}, 0) = 2, 1, 1, 1, 1, 2
                """);
        Runs.holds("Promise 5", "the case", """
                threshold(1) = 0
                govern(0, {0, 1, 2, 3, 0}) = 1, 0, 1, 2, 3
                """);
        Runs.holds("Promise 5", "Returns the case before.", """
                threshold({0, 3}) = 0, 1
                govern({0, 1}, 1) = 0, 3
                govern({0, 1}, 3) = 1
                govern(0, 0) = 3
                """);
        Runs.holds("Promise 5", "Throws `IndexOutOfBoundsException` if there is no such threshold", """
                govern({-1, 0, LEAST, MOST}, 0) ! IndexOutOfBoundsException
                threshold(1) = 0
                govern({-1, 1}, 0) ! IndexOutOfBoundsException
                govern(1, 4) ! IndexOutOfBoundsException
                govern(0, 0) = 1
                5 * threshold(1) = 1..5
                govern({-1, 6, LEAST, MOST}, 0) ! IndexOutOfBoundsException
                govern(6, {-1, 4}) ! IndexOutOfBoundsException
                govern(5, 0) = 1
                undo() = 7
                undo() = 6
                govern(5, 0) ! IndexOutOfBoundsException
                refusal(false) ! IllegalStateException
                """);
        Runs.holds("Promise 5", "Throws `IllegalArgumentException` if there is no such case", """
                threshold(1) = 0
                govern(0, {-1, 4, LEAST, MOST}) ! IllegalArgumentException
                govern(0, {0, 3}) = 1, 0
                govern(0, {-1, 4}) ! IllegalArgumentException
                refusal(false) ! IllegalStateException
                """);
        Runs.holds("Promise 5", "Throws `UnsupportedOperationException` if it is refused for the reason 2; the refusal is"
                + " then kept", """
                threshold({0, 1, 2, 3}) = 0..3
                govern(0, 0) ! UnsupportedOperationException 2 0
                govern(1, 1) ! UnsupportedOperationException 2 1
                govern(2, 2) ! UnsupportedOperationException 2 2
                govern(3, 3) ! UnsupportedOperationException 2 3
                refusal({false, true}) = 2, 3
                govern(3, 0) = 3
                govern(3, 0) ! UnsupportedOperationException 2 0
                undo() = 4
                govern(3, 3) ! UnsupportedOperationException 2 3
                govern(3, 0) = 3
                """);
    }

    private static void set() {
        Runs.holds("Promise 6", "Sets a door on a threshold, or on none.", """
                door(0, 0, false, 0, {1, 2}) = 0, 1
                threshold({1, 2}) = 0, 1
                set(0, 0) = 1
                doorOf({0, 1}, 3) = 0, -1
                set(0, 1) = 2
                doorOf({0, 1}, 3) = 1, -1
                set(0, -1) = 0
                doorOf({0, 1}, 3) = -1
                thresholdOf({0, 1}, 1) = 0
                """);
        Runs.holds("Promise 6", "the door", """
                8 * door(0, 0, false, 0, 1) = 0..7
                threshold(1) = 0
                set({0, 7}, 0) = 1
                doorOf({0..7}, 3) = 0, -1, -1, -1, -1, -1, -1, 0
                """);
        Runs.holds("Promise 6", "the threshold, -1 for none", """
                door(0, 0, false, 0, 1) = 0
                6 * threshold(1) = 0..5
                set(0, {0, 5, -1}) = 1, 1, 0
                doorOf(0, 3) = -1
                set(0, {-2, 6}) ! IndexOutOfBoundsException
                """);
        Runs.holds("Promise 6", "Returns the case of the door then.", """
                door(0, 0, false, 0, 1) = 0
                threshold({0..3}) = 0..3
                set(0, {0..3}) = 0..3
                set(0, -1) = 0
                govern(3, 1) = 3
                set(0, 3) = 1
                """);
        Runs.holds("Promise 6", "Throws `IndexOutOfBoundsException` if there is no such door, or threshold other than -1",
                """
                set({-1, 0, LEAST, MOST}, -1) ! IndexOutOfBoundsException
                threshold(0) = 0
                set({-1, 0}, 0) ! IndexOutOfBoundsException
                door(0, 0, false, 0, 1) = 0
                set({-1, 1}, 0) ! IndexOutOfBoundsException
                set({-1, 1}, -1) ! IndexOutOfBoundsException
                set(0, {-2, 1, LEAST, MOST}) ! IndexOutOfBoundsException
                set(0, 0) = 0
                set(0, {-2, 1}) ! IndexOutOfBoundsException
                7 * door(0, 0, false, 0, 1) = 1..7
                5 * threshold(0) = 1..5
                set({-1, 8, LEAST, MOST}, 5) ! IndexOutOfBoundsException
                set(7, {-2, 6, LEAST, MOST}) ! IndexOutOfBoundsException
                set({-1, 8}, {-2, 6}) ! IndexOutOfBoundsException
                set(7, 5) = 0
                refusal(false) ! IllegalStateException
                """);
        Runs.holds("Promise 6", "Throws `IndexOutOfBoundsException` if there is no such door, or threshold other than -1",
                """
                door(0, 0, false, 0, 1) = 0
                // Without thresholds there is none to set it on, but none is what it stands on.
                set(0, {-2, 0}) ! IndexOutOfBoundsException
                set(0, -1) ! UnsupportedOperationException 2 -1
                """);
        Runs.holds("Promise 6", "Throws `UnsupportedOperationException` if it is refused for the reason 2; the refusal is"
                + " then kept", """
                door(0, 0, false, 0, {1, 2}) = 0, 1
                set({0, 1}, -1) ! UnsupportedOperationException 2 -1
                6 * threshold(2) = 0..5
                set(0, 0) = 2
                set(0, 0) ! UnsupportedOperationException 2 0
                set(1, 0) = 2
                set(0, 5) = 2
                set(0, 5) ! UnsupportedOperationException 2 5
                set(0, -1) = 0
                set(0, -1) ! UnsupportedOperationException 2 -1
                refusal({false, true}) = 2, -1
                """);
    }

    private static void tellEnding() {
        Runs.holds("Promise 7", "Tells an ending.", """
                tellEnding(1, 2, true, 25) = 4
                endings(1) = "eoai/iuzo"
                endings(0) = "aiue/eoai"
                endings(2) = "iueo/oaiu"
                """);
        Runs.holds("Promise 7", "its declension", """
                tellEnding({0, 2}, 0, false, 25) = 0, 8
                ending({0, 1, 2}, 0, false) = 'z', 'e', 'z'
                """);
        Runs.holds("Promise 7", "its case", """
                tellEnding(0, {0, 3}, false, 25) = 0, 4
                ending(0, {0..3}, false) = 'z', 'i', 'u', 'z'
                """);
        Runs.holds("Promise 7", "whether it is that of double doors", """
                tellEnding(0, 0, true, 25) = 4
                ending(0, 0, {false, true}) = 'a', 'z'
                tellEnding(0, 0, false, 24) = 0
                ending(0, 0, {false, true}) = 'y', 'z'
                """);
        Runs.holds("Promise 7", "the letter, 0 for a to 25 for z", """
                tellEnding(0, 0, false, 25) = 0
                ending(0, 0, false) = 'z'
                tellEnding(0, 0, false, 24) = 25
                ending(0, 0, false) = 'y'
                tellEnding(0, 0, false, 0) = 24
                ending(0, 0, false) = 'a'
                tellEnding(0, 0, false, 1) = 0
                ending(0, 0, false) = 'b'
                """);
        Runs.holds("Promise 7", "Returns the letter before.", """
                tellEnding({0..2}, {0..3}, false, 25) = 0, 8, 20, 4, 4, 14, 0, 8, 8, 20, 4, 14
                tellEnding({0..2}, {0..3}, false, 0) = 25
                tellEnding({0..2}, {0..3}, true, 25) = 4, 14, 0, 8, 8, 20, 4, 14, 14, 0, 8, 20
                tellEnding({0..2}, {0..3}, true, 1) = 25
                """);
        Runs.holds("Promise 7", "Throws `IllegalArgumentException` if there is no such declension, case or letter", """
                tellEnding({-1, 3, LEAST, MOST}, 0, {false, true}, 5) ! IllegalArgumentException
                tellEnding(0, {-1, 4, LEAST, MOST}, {false, true}, 5) ! IllegalArgumentException
                tellEnding(0, 0, {false, true}, {-1, 26, LEAST, MOST}) ! IllegalArgumentException
                tellEnding(2, 3, true, {-1, 26}) ! IllegalArgumentException
                tellEnding({-1, 3}, {-1, 4}, true, {-1, 26}) ! IllegalArgumentException
                tellEnding(2, 3, true, {0, 25}) = 20, 0
                refusal(false) ! IllegalStateException
                """);
        Runs.holds("Promise 7", "Throws `UnsupportedOperationException` if it is refused for the reason 2; the refusal is"
                + " then kept", """
                tellEnding(0, 0, false, 0) ! UnsupportedOperationException 2 0
                tellEnding(2, 3, true, 20) ! UnsupportedOperationException 2 20
                tellEnding(2, 3, true, 25) = 20
                tellEnding(2, 3, true, 25) ! UnsupportedOperationException 2 25
                refusal({false, true}) = 2, 25
                undo() = 0
                tellEnding(2, 3, true, 20) ! UnsupportedOperationException 2 20
                """);
    }

    private static void key() {
        Runs.holds("Promise 8", "Lets a key come.", """
                door(1, 2, false, 0, 1) = 0
                account(2) = 0
                keysFor(0) = 0
                key(1, 2) = 0
                account(2) = 1
                keysFor(0) = 1
                """);
        Runs.holds("Promise 8", "its declension", """
                door({0, 1, 2}, 1, false, 0, 1) = 0, 1, 2
                key({0, 2}, 1) = 0, 1
                keysFor({0, 1, 2}) = 1, 0, 2
                """);
        Runs.holds("Promise 8", "its gender", """
                door(1, {0, 1, 2}, false, 0, 1) = 0, 1, 2
                key(1, {0, 2}) = 0, 1
                keysFor({0, 1, 2}) = 1, 0, 2
                """);
        Runs.holds("Promise 8", "Returns its number.", """
                key({0, 2}, {0, 2}) = 0..3
                key(1, 1) = 4
                undo() = 4
                key(1, 0) = 4
                clear() = 0
                key(1, 0) = 0
                """);
        Runs.holds("Promise 8", "Throws `IllegalArgumentException` if there is no such declension or gender", """
                key({-1, 3, LEAST, MOST}, 0) ! IllegalArgumentException
                key(0, {-1, 3, LEAST, MOST}) ! IllegalArgumentException
                key({-1, 3}, {-1, 3}) ! IllegalArgumentException
                key({0, 2}, {0, 2}) = 0..3
                key(1, 1) = 4
                key({-1, 3}, 0) ! IllegalArgumentException
                key(0, {-1, 3}) ! IllegalArgumentException
                refusal(false) ! IllegalStateException
                """);
        Runs.holds("Promise 8", "Throws `UnsupportedOperationException` if it is refused for the reason 2 or 1; the"
                + " refusal is then kept", """
                key(0, 0) = 0
                key(0, 0) ! UnsupportedOperationException 2 0
                key(0, 1) = 1
                key(1, 0) = 2
                key(0, 1) ! UnsupportedOperationException 2 1
                key(1, 0) ! UnsupportedOperationException 2 2
                key(2, 2) = 3
                key(2, 1) = 4
                key(1, {1, 2}) ! UnsupportedOperationException 1 5
                key(0, 2) ! UnsupportedOperationException 1 5
                key(2, 0) ! UnsupportedOperationException 1 5
                key(0, 0) ! UnsupportedOperationException 2 0
                key(2, 1) ! UnsupportedOperationException 2 4
                account(2) = 5
                undo() = 4
                key(2, 1) = 4
                refusal({false, true}) = 2, 4
                """);
    }

    private static void doorOf() {
        Runs.holds("Promise 9", "Returns a number of a door.", """
                door(1, 2, true, 4, 3) = 0
                doorOf(0, {0..10}) = 1, 2, 1, -1, 0, 0, 0, 0, 4, 3, 0
                """);
        Runs.holds("Promise 9", "the door", """
                door({0, 1, 2, 0, 1, 2, 0, 1}, 0, false, 0, 1) = 0..7
                doorOf({0..7}, 0) = 0, 1, 2, 0, 1, 2, 0, 1
                """);
        Runs.holds("Promise 9", "Returns the number.", """
                door(0, 0, false, 0, 1) = 0
                door(2, 2, true, 5, 4) = 1
                doorOf(0, {0, 1, 2, 8, 9}) = 0, 0, 0, 0, 1
                doorOf(1, {0, 1, 2, 8, 9}) = 2, 2, 1, 5, 4
                """);
        Runs.holds("Promise 9", "Throws `IndexOutOfBoundsException` if there is no such door", """
                doorOf({-1, 0, LEAST, MOST}, 0) ! IndexOutOfBoundsException
                doorOf(0, {-1, 11}) ! IndexOutOfBoundsException
                door(0, 0, false, 0, 1) = 0
                doorOf({-1, 1}, 0) ! IndexOutOfBoundsException
                7 * door(0, 0, false, 0, 1) = 1..7
                doorOf(7, 0) = 0
                doorOf({-1, 8, LEAST, MOST}, 0) ! IndexOutOfBoundsException
                doorOf({-1, 8}, {-1, 11}) ! IndexOutOfBoundsException
                undo() = 7
                doorOf(7, 0) ! IndexOutOfBoundsException
                """);
        Runs.holds("Promise 9", "Throws `IllegalArgumentException` if what is out of range", """
                door(0, 0, false, 0, 1) = 0
                doorOf(0, {-1, 11, LEAST, MOST}) ! IllegalArgumentException
                doorOf(0, {0, 10}) = 0
                """);
    }

    private static void doorOfNumbers() {
        String words = "0 for its declension, 1 for its gender, 2 for 1 if it is double and 0 otherwise, 3 for its"
                + " threshold, -1 without one, 4 for its case, 5 for its wrong knocks that are not forgotten, 6 for 1 if its"
                + " latch is down and 0 otherwise, 7 for 1 if it is open and 0 otherwise, 8 for its one room, 9 for the"
                + " other one, 10 for the knocks at it so far";
        Runs.holds("Promise 9", words, """
                door({0, 1, 2}, 2, true, 5, 0) = 0..2
                doorOf({0, 1, 2}, 0) = 0, 1, 2
                door(2, {0, 1}, false, 0, 5) = 3, 4
                doorOf({2, 3, 4}, 1) = 2, 0, 1
                doorOf({0, 4}, 2) = 1, 0
                doorOf({0, 4}, 8) = 5, 0
                doorOf({0, 4}, 9) = 0, 5
                """);
        Runs.holds("Promise 9", words, """
                door(0, 0, false, 0, 1) = 0
                6 * threshold(3) = 0..5
                doorOf(0, {3, 4}) = -1, 0
                set(0, 0) = 3
                doorOf(0, {3, 4}) = 0, 3
                set(0, 5) = 3
                doorOf(0, {3, 4}) = 5, 3
                govern(5, 0) = 3
                doorOf(0, {3, 4}) = 5, 0
                set(0, -1) = 0
                doorOf(0, {3, 4}) = -1, 0
                """);
        Runs.holds("Promise 9", words, """
                door(0, 0, false, 0, 1) = 0
                key(0, 0) = 0
                doorOf(0, {5, 6, 7, 10}) = 0, 0, 0, 0
                knock(0, 1, false, 0) = 2
                doorOf(0, {5, 6, 7, 10}) = 1, 0, 0, 1
                knock(0, 1, false, 0) = 2
                doorOf(0, {5, 6, 7, 10}) = 2, 0, 0, 2
                knock(0, 1, false, 0) = 2
                doorOf(0, {5, 6, 7, 10}) = 3, 1, 0, 3
                free(0, 0) = 0
                doorOf(0, {5, 6, 7, 10}) = 0, 0, 0, 3
                knock(0, 1, false, 0) = 2
                knock(0, 0, false, 0) = 3
                doorOf(0, {5, 6, 7, 10}) = 0, 0, 1, 5
                shut(0) = 0
                doorOf(0, {5, 6, 7, 10}) = 0, 0, 0, 5
                """);
    }

    private static void thresholdOf() {
        Runs.holds("Promise 10", "Returns a number of a threshold.", """
                threshold(3) = 0
                thresholdOf(0, {0, 1}) = 3, 0
                """);
        Runs.holds("Promise 10", "the threshold", """
                threshold({0, 1, 2, 3, 0, 1}) = 0..5
                thresholdOf({0..5}, 0) = 0, 1, 2, 3, 0, 1
                """);
        Runs.holds("Promise 10", "0 for the case that it governs, 1 for how many doors stand on it", """
                8 * door(0, 0, false, 0, 1) = 0..7
                threshold({0, 3}) = 0, 1
                thresholdOf({0, 1}, 0) = 0, 3
                thresholdOf({0, 1}, 1) = 0
                set(0, 1) = 3
                thresholdOf({0, 1}, 1) = 0, 1
                set({1..7}, 1) = 3
                thresholdOf({0, 1}, 1) = 0, 8
                set(7, 0) = 0
                set(6, -1) = 0
                thresholdOf({0, 1}, 1) = 1, 6
                govern(1, 1) = 3
                thresholdOf(1, {0, 1}) = 1, 6
                """);
        Runs.holds("Promise 10", "Returns the number.", """
                door(0, 0, false, 0, 1) = 0
                threshold({2, 1}) = 0, 1
                set(0, 1) = 1
                thresholdOf(0, {0, 1}) = 2, 0
                thresholdOf(1, {0, 1}) = 1, 1
                """);
        Runs.holds("Promise 10", "Throws `IndexOutOfBoundsException` if there is no such threshold", """
                thresholdOf({-1, 0, LEAST, MOST}, 0) ! IndexOutOfBoundsException
                thresholdOf(0, {-1, 2}) ! IndexOutOfBoundsException
                threshold(0) = 0
                thresholdOf({-1, 1}, 0) ! IndexOutOfBoundsException
                5 * threshold(0) = 1..5
                thresholdOf(5, 0) = 0
                thresholdOf({-1, 6, LEAST, MOST}, 1) ! IndexOutOfBoundsException
                thresholdOf({-1, 6}, {-1, 2}) ! IndexOutOfBoundsException
                undo() = 5
                thresholdOf(5, 0) ! IndexOutOfBoundsException
                """);
        Runs.holds("Promise 10", "Throws `IllegalArgumentException` if what is out of range", """
                threshold(0) = 0
                thresholdOf(0, {-1, 2, LEAST, MOST}) ! IllegalArgumentException
                thresholdOf(0, {0, 1}) = 0
                """);
    }

    private static void ending() {
        Runs.holds("Promise 11", "Returns an ending.", """
                ending({0..2}, {0..3}, false) = 'a', 'i', 'u', 'e', 'e', 'o', 'a', 'i', 'i', 'u', 'e', 'o'
                tellEnding(1, 3, false, 25) = 8
                ending({0..2}, {0..3}, false) = 'a', 'i', 'u', 'e', 'e', 'o', 'a', 'z', 'i', 'u', 'e', 'o'
                """);
        Runs.holds("Promise 11", "its declension", """
                ending({0, 1, 2}, 0, false) = 'a', 'e', 'i'
                """);
        Runs.holds("Promise 11", "its case", """
                ending(0, {0, 1, 2, 3}, false) = 'a', 'i', 'u', 'e'
                """);
        Runs.holds("Promise 11", "whether it is that of double doors", """
                ending(2, 3, {false, true}) = 'o', 'u'
                """);
        Runs.holds("Promise 11", "Returns the letter.", """
                tellEnding(0, 0, false, 25) = 0
                ending(0, 0, {false, true}) = 'z', 'e'
                tellEnding(0, 0, false, 0) = 25
                ending(0, 0, {false, true}) = 'a', 'e'
                """);
        Runs.holds("Promise 11", "Throws `IllegalArgumentException` if there is no such declension or case", """
                ending({-1, 3, LEAST, MOST}, 0, {false, true}) ! IllegalArgumentException
                ending(0, {-1, 4, LEAST, MOST}, {false, true}) ! IllegalArgumentException
                ending({-1, 3}, {-1, 4}, false) ! IllegalArgumentException
                ending({0, 2}, {0, 3}, false) = 'a', 'e', 'i', 'o'
                """);
    }
}
