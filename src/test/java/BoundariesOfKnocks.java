/** The sentences of the promises 12 to 21: forms, knocks and keys. */
final class BoundariesOfKnocks {
    private static final String NO_DOOR = "Throws `IndexOutOfBoundsException` if there is no such door";

    private BoundariesOfKnocks() {
    }

    static void hold() {
        areAlike();
        couldBe();
        twins();
        syncretic();
        often();
        knock();
        knockRefused();
        shut();
        free();
        agrees();
        keysFor();
    }

    private static void areAlike() {
        String words = "Tells whether the forms of two doors are alike: letter by letter, or by a second way: by gender,"
                + " number and the number of the ending.";
        // By one of the three they are unlike, of each of which the doors have the lowest and the highest one.
        Runs.holds("Promise 12", words, """
                door(0, {0, 2}, false, 0, 1) = 0, 1
                door(0, 0, true, 0, 1) = 2
                tellEnding(0, 0, true, 0) = 4
                door(1, 0, false, 0, 1) = 3
                areAlike({0..3}, {0..3}, false) = true, false, false, false, false, true, false, false, false, false, true, false, false, false, false, true
                areAlike({0..3}, {0..3}, true) = true, false, false, false, false, true, false, false, false, false, true, false, false, false, false, true
                """);
        // They are alike by an ending, though neither declension nor case is the same.
        Runs.holds("Promise 12", words, """
                door(0, 1, true, 0, 1) = 0
                door(2, 1, true, 4, 5) = 1
                threshold(3) = 0
                set(1, 0) = 3
                areAlike(0, 1, {false, true}) = false
                tellEnding(2, 3, true, 4) = 20
                areAlike(0, 1, {false, true}) = true
                tellEnding({0, 2}, 0, true, 25) = 4, 14
                areAlike(0, 1, {false, true}) = false
                tellEnding(2, 3, true, 25) = 4
                areAlike(0, 1, {false, true}) = true
                set(1, -1) = 0
                areAlike(0, 1, {false, true}) = true
                """);
        Runs.holds("Promise 12", "the one door", """
                7 * door(0, 0, false, 0, 1) = 0..6
                door(0, 1, false, 0, 1) = 7
                areAlike({0..7}, 6, false) = true, true, true, true, true, true, true, false
                areAlike({0..7}, 7, true) = false, false, false, false, false, false, false, true
                """);
        Runs.holds("Promise 12", "the other door", """
                7 * door(0, 0, false, 0, 1) = 0..6
                door(0, 1, false, 0, 1) = 7
                areAlike(6, {0..7}, false) = true, true, true, true, true, true, true, false
                areAlike(7, {0..7}, true) = false, false, false, false, false, false, false, true
                """);
        Runs.holds("Promise 12", "whether the second way is taken", """
                door(0, {0, 0, 1}, false, 0, 1) = 0, 1, 2
                areAlike(0, {0, 1, 2}, false) = true, true, false
                areAlike(0, {0, 1, 2}, true) = true, true, false
                """);
        Runs.holds("Promise 12", "Returns whether they are.", """
                door(0, 0, false, 0, 1) = 0
                areAlike(0, 0, {false, true}) = true
                door(0, 0, true, 0, 1) = 1
                areAlike(0, 1, {false, true}) = false
                """);
        Runs.holds("Promise 12", "Throws `IndexOutOfBoundsException` if there is no such door, for either", """
                areAlike(0, 0, {false, true}) ! IndexOutOfBoundsException
                door(0, 0, false, 0, 1) = 0
                areAlike({-1, 1, LEAST, MOST}, 0, {false, true}) ! IndexOutOfBoundsException
                areAlike(0, {-1, 1, LEAST, MOST}, {false, true}) ! IndexOutOfBoundsException
                7 * door(0, 0, false, 0, 1) = 1..7
                areAlike({-1, 8}, 7, {false, true}) ! IndexOutOfBoundsException
                areAlike(7, {-1, 8}, {false, true}) ! IndexOutOfBoundsException
                areAlike(8, 8, {false, true}) ! IndexOutOfBoundsException
                areAlike(7, 7, {false, true}) = true
                """);
    }

    private static void couldBe() {
        Runs.holds("Promise 13", "Returns the cases in which a door would have the ending that it has.", """
                door(1, 2, false, 0, 1) = 0
                couldBe(0) = 1
                threshold({1, 2, 3}) = 0, 1, 2
                set(0, 0) = 1
                couldBe(0) = 2
                set(0, 1) = 2
                couldBe(0) = 4
                set(0, 2) = 3
                couldBe(0) = 8
                // Endings of other declensions and of double doors are none of its own.
                tellEnding(0, 0, false, 8) = 0
                tellEnding(1, 1, true, 8) = 20
                couldBe(0) = 8
                tellEnding(1, 0, false, 8) = 4
                couldBe(0) = 9
                tellEnding(1, 1, false, 8) = 14
                couldBe(0) = 11
                tellEnding(1, 2, false, 8) = 0
                couldBe(0) = 15
                tellEnding(1, 3, false, 0) = 8
                couldBe(0) = 8
                """);
        Runs.holds("Promise 13", "Returns the cases in which a door would have the ending that it has.", """
                door(2, 0, true, 0, 1) = 0
                tellEnding(2, {0..3}, true, 25) = 14, 0, 8, 20
                couldBe(0) = 15
                tellEnding(2, 0, true, 24) = 25
                couldBe(0) = 1
                """);
        Runs.holds("Promise 13", "the door", """
                8 * door(0, 0, false, 0, 1) = 0..7
                threshold(3) = 0
                set({0, 7}, 0) = 3
                couldBe({0..7}) = 8, 1, 1, 1, 1, 1, 1, 8
                """);
        Runs.holds("Promise 13", "Returns their set, bit 0 for the case 0.", """
                door(0, 0, false, 0, 1) = 0
                couldBe(0) = 1
                threshold(3) = 0
                set(0, 0) = 3
                couldBe(0) = 8
                tellEnding(0, 0, false, 4) = 0
                couldBe(0) = 9
                """);
        Runs.holds("Promise 13", NO_DOOR, """
                couldBe({-1, 0, LEAST, MOST}) ! IndexOutOfBoundsException
                door(0, 0, false, 0, 1) = 0
                couldBe({-1, 1}) ! IndexOutOfBoundsException
                7 * door(0, 0, false, 0, 1) = 1..7
                couldBe({0, 7}) = 1
                couldBe({-1, 8, LEAST, MOST}) ! IndexOutOfBoundsException
                """);
    }

    private static void twins() {
        Runs.holds("Promise 14", "Returns the doors that have the form of a door.", """
                door(0, {0, 1, 2}, false, 0, 1) = 0, 1, 2
                door(0, {0, 1, 2}, true, 0, 1) = 3, 4, 5
                door(1, 0, false, 0, 1) = 6
                door(0, 0, false, 4, 5) = 7
                twins({0..7}) = 129, 2, 4, 8, 16, 32, 64, 129
                tellEnding(1, 0, false, 0) = 4
                twins({0..7}) = 193, 2, 4, 8, 16, 32, 193, 193
                threshold(1) = 0
                set(0, 0) = 1
                twins({0, 6, 7}) = 1, 192, 192
                """);
        Runs.holds("Promise 14", "the door", """
                7 * door(0, 0, false, 0, 1) = 0..6
                door(0, 1, false, 0, 1) = 7
                twins({0..7}) = 127, 127, 127, 127, 127, 127, 127, 128
                """);
        Runs.holds("Promise 14", "Returns their set, bit 0 for the door 0, itself included.", """
                door(0, 0, false, 0, 1) = 0
                twins(0) = 1
                door(0, 1, false, 0, 1) = 1
                twins({0, 1}) = 1, 2
                6 * door(0, 1, false, 0, 1) = 2..7
                twins({0..7}) = 1, 254, 254, 254, 254, 254, 254, 254
                clear() = 8
                8 * door(2, 2, true, 0, 1) = 0..7
                twins({0..7}) = 255
                """);
        Runs.holds("Promise 14", NO_DOOR, """
                twins({-1, 0, LEAST, MOST}) ! IndexOutOfBoundsException
                door(0, 0, false, 0, 1) = 0
                twins({-1, 1}) ! IndexOutOfBoundsException
                7 * door(0, 0, false, 0, 1) = 1..7
                twins({-1, 8, LEAST, MOST}) ! IndexOutOfBoundsException
                undo() = 7
                twins(0) = 127
                twins(7) ! IndexOutOfBoundsException
                """);
    }

    private static void syncretic() {
        String words = "Returns how many pairs of unlike cases have like endings in a declension, for single and for"
                + " double doors together.";
        Runs.holds("Promise 15", words, """
                syncretic({0, 1, 2}) = 0
                // A single and a double ending that are alike are no pair, nor are those of two declensions.
                tellEnding(0, 0, true, 20) = 4
                syncretic({0, 1, 2}) = 0
                tellEnding({0, 2}, 0, true, 0) = 20, 14
                syncretic({0, 1, 2}) = 1, 0, 1
                """);
        Runs.holds("Promise 15", words, """
                tellEnding(1, {0, 3}, false, 25) = 4, 8
                syncretic({0, 1, 2}) = 0, 1, 0
                tellEnding(1, {1, 2}, false, 24) = 14, 0
                syncretic({0, 1, 2}) = 0, 2, 0
                tellEnding(1, 2, false, 25) = 24
                syncretic({0, 1, 2}) = 0, 3, 0
                tellEnding(1, 1, false, 25) = 24
                syncretic({0, 1, 2}) = 0, 6, 0
                tellEnding(1, {0..3}, true, 25) = 8, 20, 4, 14
                syncretic({0, 1, 2}) = 0, 12, 0
                """);
        Runs.holds("Promise 15", "the declension", """
                tellEnding({0, 2}, {0, 1}, true, 25) = 4, 14, 14, 0
                syncretic({0, 1, 2}) = 1, 0, 1
                """);
        Runs.holds("Promise 15", "Returns how many.", """
                syncretic(0) = 0
                tellEnding(0, 3, false, 0) = 4
                syncretic(0) = 1
                tellEnding(0, 3, true, 4) = 8
                syncretic(0) = 2
                """);
        Runs.holds("Promise 15", "Throws `IllegalArgumentException` if there is no such declension", """
                syncretic({-1, 3, LEAST, MOST}) ! IllegalArgumentException
                syncretic({0, 2}) = 0
                """);
    }

    private static void often() {
        Runs.holds("Promise 16", "Returns for how many declensions, cases and numbers an ending is.", """
                often({'a', 'e', 'i', 'o', 'u'}) = 4, 5, 6, 5, 4
                often({'b', 'z'}) = 0
                tellEnding({0, 2}, {0, 3}, {false, true}, 25) = 0, 4, 4, 8, 8, 14, 14, 20
                often({'a', 'e', 'i', 'o', 'u', 'z'}) = 3, 3, 4, 3, 3, 8
                """);
        Runs.holds("Promise 16", "the letter", """
                tellEnding(0, 0, {false, true}, 25) = 0, 4
                tellEnding(0, 1, {false, true}, 1) = 8, 14
                tellEnding(0, 2, {false, true}, 24) = 20, 0
                often({'a', 'b', 'y', 'z'}) = 2
                """);
        Runs.holds("Promise 16", "Returns for how many.", """
                tellEnding({0..2}, {0..3}, {false, true}, 25) = 0, 4, 8, 14, 20, 0, 4, 8, 4, 8, 14, 20, 0, 4, 8, 14, 8, 14, 20, 0, 4, 8, 14, 20
                often({'a', 'z'}) = 0, 24
                tellEnding({0..2}, {0..3}, {false, true}, 0) = 25
                often({'a', 'z'}) = 24, 0
                """);
        // 96 and 123 are the characters beside a and z; 353 is that of a with a bit more.
        Runs.holds("Promise 16", "Throws `IllegalArgumentException` if it is not from a to z", """
                often({96, 123, 0, 65535, 32, 353}) ! IllegalArgumentException
                often({'A', 'Z', '0', '9'}) ! IllegalArgumentException
                often({97, 122}) = 4, 0
                """);
    }

    private static void knock() {
        Runs.holds("Promise 17", "Knocks at a door.", """
                door(0, 0, false, 0, {1, 2}) = 0, 1
                knock(0, 0, false, 0) = 3
                doorOf({0, 1}, 7) = 1, 0
                doorOf({0, 1}, 10) = 1, 0
                account({3, 5, 6, 7}) = 1, 1, 1, 0
                knock(1, 0, false, 1) = 2
                doorOf({0, 1}, 7) = 1, 0
                doorOf({0, 1}, 10) = 1
                account({3, 5, 6, 7}) = 1, 2, 1, 1
                """);
        Runs.holds("Promise 17", "the door", """
                8 * door(0, 0, false, 0, 1) = 0..7
                knock({0, 7}, 0, false, 0) = 3
                doorOf({0..7}, 7) = 1, 0, 0, 0, 0, 0, 0, 1
                """);
        Runs.holds("Promise 17", "the gender of the knock", """
                door(0, {0, 2}, false, 0, 1) = 0, 1
                knock(0, {2, 0}, false, 0) = 2, 3
                knock(1, {0, 2}, false, 0) = 2, 3
                """);
        Runs.holds("Promise 17", "whether it is double", """
                door(0, 0, {false, true}, 0, 1) = 0, 1
                knock(0, 0, {true, false}, 0) = 2, 3
                knock(1, 0, {false, true}, 0) = 2, 3
                """);
        Runs.holds("Promise 17", "its case", """
                door(0, 0, false, 0, {1, 2}) = 0, 1
                threshold(3) = 0
                set(1, 0) = 3
                knock(0, 0, false, {3, 0}) = 2, 3
                knock(1, 0, false, {0, 3}) = 2, 3
                """);
        Runs.holds("Promise 17", "Returns in how many of the three it agrees.", """
                8 * door(2, 2, true, 0, 1) = 0..7
                threshold(3) = 0
                set({0..7}, 0) = 3
                knock(0, 0, false, 0) = 0
                knock(1, 2, false, 0) = 1
                knock(2, 0, true, 0) = 1
                knock(3, 0, false, 3) = 1
                knock(4, 2, true, 0) = 2
                knock(5, 2, false, 3) = 2
                knock(6, 0, true, 3) = 2
                knock(7, 2, true, 3) = 3
                """);
        Runs.holds("Promise 17", NO_DOOR, """
                knock({-1, 0, LEAST, MOST}, 0, false, 0) ! IndexOutOfBoundsException
                door(0, 0, false, 0, 1) = 0
                knock({-1, 1}, 0, false, 0) ! IndexOutOfBoundsException
                7 * door(0, 0, false, 0, 1) = 1..7
                knock({-1, 8, LEAST, MOST}, 0, false, 0) ! IndexOutOfBoundsException
                knock({-1, 8}, {-1, 3}, false, {-1, 4}) ! IndexOutOfBoundsException
                knock(7, 0, false, 0) = 3
                account(5) = 1
                """);
        Runs.holds("Promise 17", "Throws `IllegalArgumentException` if there is no such gender or case", """
                door(0, 0, false, 0, {1, 2}) = 0, 1
                knock(0, {-1, 3, LEAST, MOST}, false, 0) ! IllegalArgumentException
                knock(0, 0, true, {-1, 4, LEAST, MOST}) ! IllegalArgumentException
                knock(0, {-1, 3}, false, {-1, 4}) ! IllegalArgumentException
                account(5) = 0
                knock(0, 0, false, 0) = 3
                knock(0, {-1, 3}, false, 0) ! IllegalArgumentException
                knock(0, 0, false, {-1, 4}) ! IllegalArgumentException
                3 * knock(1, 1, false, 0) = 2
                knock(1, {-1, 3}, false, 0) ! IllegalArgumentException
                knock(1, 0, false, {-1, 4}) ! IllegalArgumentException
                refusal(false) ! IllegalStateException
                """);
    }

    private static void knockRefused() {
        String words = "Throws `UnsupportedOperationException` if it is refused for the reason 4 or 3; the refusal is then"
                + " kept";
        Runs.holds("Promise 17", words, """
                door(0, 0, false, 0, {1, 2}) = 0, 1
                knock(0, 0, false, 0) = 3
                knock(0, 0, false, 0) ! UnsupportedOperationException 4 1
                knock(0, 2, true, 3) ! UnsupportedOperationException 4 1
                knock(1, 0, false, 0) = 3
                knock(1, 0, false, 0) ! UnsupportedOperationException 4 2
                refusal({false, true}) = 4, 2
                shut(0) = 1
                knock(0, 0, false, 0) = 3
                """);
        Runs.holds("Promise 17", words, """
                door(0, 0, false, 0, {1, 2}) = 0, 1
                2 * knock(0, 1, true, 1) = 0
                2 * knock(1, 1, true, 1) = 0
                knock(0, 1, true, 1) = 0
                knock(0, 0, false, 0) ! UnsupportedOperationException 3 1
                knock(0, 1, true, 1) ! UnsupportedOperationException 3 1
                knock(1, 1, true, 1) = 0
                knock(0, 0, false, 0) ! UnsupportedOperationException 3 2
                refusal({false, true}) = 3, 2
                undo() = 7
                knock(0, 0, false, 0) ! UnsupportedOperationException 3 1
                knock(1, 0, false, 0) = 3
                """);
    }

    private static void shut() {
        Runs.holds("Promise 18", "Shuts a door.", """
                door(0, 0, false, 0, {1, 2}) = 0, 1
                knock({0, 1}, 0, false, 0) = 3
                shut(0) = 1
                doorOf({0, 1}, 7) = 0, 1
                reached(0) = 5
                knock(0, 0, false, 0) = 3
                doorOf({0, 1}, 7) = 1
                """);
        Runs.holds("Promise 18", "the door", """
                8 * door(0, 0, false, 0, 1) = 0..7
                knock({0..7}, 0, false, 0) = 3
                shut({0, 7}) = 7, 6
                doorOf({0..7}, 7) = 0, 1, 1, 1, 1, 1, 1, 0
                """);
        Runs.holds("Promise 18", "Returns how many doors are open then.", """
                8 * door(0, 0, false, 0, 1) = 0..7
                knock(3, 0, false, 0) = 3
                shut(3) = 0
                knock({0..7}, 0, false, 0) = 3
                shut({0..7}) = 7..0
                """);
        Runs.holds("Promise 18", NO_DOOR, """
                shut({-1, 0, LEAST, MOST}) ! IndexOutOfBoundsException
                door(0, 0, false, 0, 1) = 0
                knock(0, 0, false, 0) = 3
                shut({-1, 1}) ! IndexOutOfBoundsException
                7 * door(0, 0, false, 0, 1) = 1..7
                knock(7, 0, false, 0) = 3
                shut({-1, 8, LEAST, MOST}) ! IndexOutOfBoundsException
                shut(7) = 1
                refusal(false) ! IllegalStateException
                """);
        Runs.holds("Promise 18", "Throws `UnsupportedOperationException` if it is refused for the reason 5; the refusal is"
                + " then kept", """
                door(0, 0, false, 0, {1, 2}) = 0, 1
                shut({0, 1}) ! UnsupportedOperationException 5 0
                knock(1, 0, false, 0) = 3
                shut(0) ! UnsupportedOperationException 5 1
                refusal({false, true}) = 5, 1
                shut(1) = 0
                shut(1) ! UnsupportedOperationException 5 0
                // A door with a latch that is down is not open, either.
                3 * knock(0, 1, true, 1) = 0
                shut(0) ! UnsupportedOperationException 5 0
                """);
    }

    private static void free() {
        Runs.holds("Promise 19", "Frees a door.", """
                door(0, 0, false, 0, {1, 2}) = 0, 1
                key(0, 0) = 0
                3 * knock({0, 1}, 1, true, 1) = 0
                free(0, 1) = 1
                doorOf({0, 1}, 6) = 1, 0
                doorOf({0, 1}, 5) = 3, 0
                doorOf({0, 1}, 7) = 0
                account({4, 8, 9}) = 1, 2, 1
                """);
        Runs.holds("Promise 19", "the key", """
                door({0, 2}, {0, 2}, false, 0, 1) = 0..3
                3 * knock({0..3}, 1, true, 1) = 0
                key({0, 1}, {0, 1}) = 0..3
                key(2, 2) = 4
                free(0, 0) = 3
                free(4, 3) = 2
                """);
        Runs.holds("Promise 19", "the door", """
                8 * door(0, 0, false, 0, 1) = 0..7
                key(0, 0) = 0
                3 * knock({0..7}, 1, true, 1) = 0
                free(0, {0, 7}) = 7, 6
                doorOf({0..7}, 6) = 0, 1, 1, 1, 1, 1, 1, 0
                """);
        Runs.holds("Promise 19", "Returns how many latches are down then.", """
                8 * door(0, 0, false, 0, 1) = 0..7
                key(0, 0) = 0
                3 * knock({0..7}, 1, true, 1) = 0
                free(0, {0..7}) = 7..0
                """);
        Runs.holds("Promise 19", "Throws `IndexOutOfBoundsException` if there is no such key or door", """
                free({-1, 0}, {-1, 0}) ! IndexOutOfBoundsException
                door(0, 0, false, 0, 1) = 0
                free({-1, 0, LEAST, MOST}, 0) ! IndexOutOfBoundsException
                3 * knock(0, 1, true, 1) = 0
                free({-1, 0}, 0) ! IndexOutOfBoundsException
                key(0, 0) = 0
                free({-1, 1}, 0) ! IndexOutOfBoundsException
                free(0, {-1, 1, LEAST, MOST}) ! IndexOutOfBoundsException
                key({1, 2}, {1, 2}) = 1..4
                7 * door(2, 2, false, 0, 1) = 1..7
                3 * knock(7, 1, true, 1) = 0
                free({-1, 5, LEAST, MOST}, 7) ! IndexOutOfBoundsException
                free(4, {-1, 8, LEAST, MOST}) ! IndexOutOfBoundsException
                free({-1, 5}, {-1, 8}) ! IndexOutOfBoundsException
                free(4, 7) = 1
                free(0, 0) = 0
                refusal(false) ! IllegalStateException
                """);
        Runs.holds("Promise 19", "Throws `UnsupportedOperationException` if it is refused for the reason 6 or 7; the"
                + " refusal is then kept", """
                door(0, 0, false, 0, 1) = 0
                key({0, 1}, {0, 1}) = 0..3
                // It is looked first whether the latch is down, then whether the key fits.
                free(0, 0) ! UnsupportedOperationException 6 0
                free(3, 0) ! UnsupportedOperationException 6 0
                knock(0, 1, true, 1) = 0
                free(0, 0) ! UnsupportedOperationException 6 1
                knock(0, 1, true, 1) = 0
                free(0, 0) ! UnsupportedOperationException 6 2
                free(3, 0) ! UnsupportedOperationException 6 2
                knock(0, 1, true, 1) = 0
                free(1, 0) ! UnsupportedOperationException 7 1
                free(2, 0) ! UnsupportedOperationException 7 1
                free(3, 0) ! UnsupportedOperationException 7 0
                account(9) = 0
                free(0, 0) = 0
                free(0, 0) ! UnsupportedOperationException 6 0
                knock(0, 0, false, 0) = 3
                free(0, 0) ! UnsupportedOperationException 6 0
                refusal({false, true}) = 6, 0
                """);
    }

    private static void agrees() {
        Runs.holds("Promise 20", "Returns in how many of the three a knock would agree with a door, open, latched or not.",
                """
                door(0, 0, false, 0, {1, 2, 3}) = 0, 1, 2
                knock(1, 0, false, 0) = 3
                3 * knock(2, 1, true, 1) = 0
                agrees({0, 1, 2}, 0, false, 0) = 3
                agrees({0, 1, 2}, 0, false, 1) = 2
                agrees({0, 1, 2}, 2, false, 1) = 1
                agrees({0, 1, 2}, 2, true, 1) = 0
                account({5, 6, 7}) = 4, 1, 3
                """);
        Runs.holds("Promise 20", "the door", """
                8 * door(0, 0, false, 0, 1) = 0..7
                threshold(1) = 0
                set({0, 7}, 0) = 1
                agrees({0..7}, 0, false, 1) = 3, 2, 2, 2, 2, 2, 2, 3
                """);
        Runs.holds("Promise 20", "the gender of the knock", """
                door(0, {0, 2}, false, 0, 1) = 0, 1
                agrees({0, 1}, {0, 1, 2}, false, 0) = 3, 2, 2, 2, 2, 3
                """);
        Runs.holds("Promise 20", "whether it is double", """
                door(0, 0, {false, true}, 0, 1) = 0, 1
                agrees({0, 1}, 0, {false, true}, 0) = 3, 2, 2, 3
                """);
        Runs.holds("Promise 20", "its case", """
                door(0, 0, false, 0, {1, 2}) = 0, 1
                threshold(3) = 0
                set(1, 0) = 3
                agrees({0, 1}, 0, false, {0..3}) = 3, 2, 2, 2, 2, 2, 2, 3
                """);
        Runs.holds("Promise 20", "Returns in how many.", """
                door(2, 1, true, 0, 1) = 0
                agrees(0, 0, false, 1) = 0
                agrees(0, 1, false, 1) = 1
                agrees(0, 1, true, 1) = 2
                agrees(0, 1, true, 0) = 3
                """);
        Runs.holds("Promise 20", NO_DOOR, """
                agrees({-1, 0, LEAST, MOST}, 0, false, 0) ! IndexOutOfBoundsException
                door(0, 0, false, 0, 1) = 0
                agrees({-1, 1}, 0, false, 0) ! IndexOutOfBoundsException
                7 * door(0, 0, false, 0, 1) = 1..7
                agrees({-1, 8, LEAST, MOST}, 0, false, 0) ! IndexOutOfBoundsException
                agrees({-1, 8}, {-1, 3}, false, {-1, 4}) ! IndexOutOfBoundsException
                agrees(7, 0, false, 0) = 3
                """);
        Runs.holds("Promise 20", "Throws `IllegalArgumentException` if there is no such gender or case", """
                door(0, 0, false, 0, 1) = 0
                agrees(0, {-1, 3, LEAST, MOST}, {false, true}, 0) ! IllegalArgumentException
                agrees(0, 0, {false, true}, {-1, 4, LEAST, MOST}) ! IllegalArgumentException
                agrees(0, {-1, 3}, false, {-1, 4}) ! IllegalArgumentException
                agrees(0, {0, 2}, false, {0, 3}) = 3, 2, 2, 1
                """);
    }

    private static void keysFor() {
        Runs.holds("Promise 21", "Returns the keys that fit a door.", """
                door({0, 1}, {0, 1}, true, 0, 1) = 0..3
                keysFor({0..3}) = 0
                key(1, 1) = 0
                key(1, 0) = 1
                key(2, 2) = 2
                keysFor({0..3}) = 0, 0, 2, 1
                key(0, 1) = 3
                key(0, 0) = 4
                keysFor({0..3}) = 16, 8, 2, 1
                undo() = 7
                keysFor({0..3}) = 0, 8, 2, 1
                """);
        Runs.holds("Promise 21", "the door", """
                6 * door(2, 2, false, 0, 1) = 0..5
                2 * door(1, 1, false, 0, 1) = 6, 7
                key(1, 1) = 0
                keysFor({0..7}) = 0, 0, 0, 0, 0, 0, 1, 1
                """);
        Runs.holds("Promise 21", "Returns their set, bit 0 for the key 0.", """
                door(2, 2, false, 0, 1) = 0
                door(0, 0, false, 0, 1) = 1
                key(0, {0, 1, 2}) = 0, 1, 2
                key(2, {1, 2}) = 3, 4
                keysFor({0, 1}) = 16, 1
                """);
        Runs.holds("Promise 21", NO_DOOR, """
                keysFor({-1, 0, LEAST, MOST}) ! IndexOutOfBoundsException
                door(0, 0, false, 0, 1) = 0
                keysFor({-1, 1}) ! IndexOutOfBoundsException
                7 * door(0, 0, false, 0, 1) = 1..7
                keysFor({-1, 8, LEAST, MOST}) ! IndexOutOfBoundsException
                keysFor({0, 7}) = 0
                """);
    }
}
