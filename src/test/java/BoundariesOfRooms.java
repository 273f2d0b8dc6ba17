/** The sentences of the promises 22 to 33: rooms, lines and accounts. */
final class BoundariesOfRooms {
    private static final String NO_ROOM = "Throws `IndexOutOfBoundsException` if there is no such room";

    // The rooms 0 to 5 in a row, door by door.
    private static final String ROW_OF_ROOMS = """
            door(0, 0, false, 0, 1) = 0
            door(0, 0, false, 2, 1) = 1
            door(0, 0, false, 2, 3) = 2
            door(0, 0, false, 4, 3) = 3
            door(0, 0, false, 4, 5) = 4
            """;

    private BoundariesOfRooms() {
    }

    static void hold() {
        way();
        reached();
        best();
        ranked();
        isRight();
        line();
        endings();
        character();
        refusal();
        account();
        accountsOfKnocks();
        meanKnocks();
        agreedShare();
    }

    private static void way() {
        String words = "Returns the fewest open doors through which one comes from a room to another one: room by room, or"
                + " by a second way: by all rooms that are reached through one door, through two, and so on.";
        Runs.holds("Promise 22", words, ROW_OF_ROOMS + """
                knock({0..4}, 0, false, 0) = 3
                way(0, {0..5}, false) = 0, 1, 2, 3, 4, 5
                way(0, {0..5}, true) = 0, 1, 2, 3, 4, 5
                way({0..5}, 0, false) = 0, 1, 2, 3, 4, 5
                way({0..5}, 0, true) = 0, 1, 2, 3, 4, 5
                way(5, {0..5}, false) = 5, 4, 3, 2, 1, 0
                way(5, {0..5}, true) = 5, 4, 3, 2, 1, 0
                way(3, 1, {false, true}) = 2
                """);
        // Of two ways round the shorter one, and with a door across it one through one door alone.
        Runs.holds("Promise 22", words, ROW_OF_ROOMS + """
                door(0, 0, false, 5, 0) = 5
                door(0, 0, false, 3, 0) = 6
                door(0, 0, false, 3, 0) = 7
                knock({0..5}, 0, false, 0) = 3
                way(0, {0..5}, false) = 0, 1, 2, 3, 2, 1
                way(0, {0..5}, true) = 0, 1, 2, 3, 2, 1
                knock({6, 7}, 0, false, 0) = 3
                way(0, {0..5}, false) = 0, 1, 2, 1, 2, 1
                way(0, {0..5}, true) = 0, 1, 2, 1, 2, 1
                shut(7) = 7
                way(0, 3, {false, true}) = 1
                shut(6) = 6
                way(0, 3, {false, true}) = 3
                """);
        // Doors that are not open are no ways, nor is a latch that is down.
        Runs.holds("Promise 22", words, """
                door(0, 0, false, 0, {1, 1, 1}) = 0, 1, 2
                3 * knock(0, 1, true, 1) = 0
                knock(1, 1, true, 1) = 0
                way(0, 1, {false, true}) ! NoSuchElementException
                knock(2, 0, false, 0) = 3
                way(0, 1, {false, true}) = 1
                """);
        Runs.holds("Promise 22", "the room from which one comes", ROW_OF_ROOMS + """
                knock({0..4}, 0, false, 0) = 3
                way({0..5}, 2, false) = 2, 1, 0, 1, 2, 3
                way({0..5}, 2, true) = 2, 1, 0, 1, 2, 3
                """);
        Runs.holds("Promise 22", "the room to which one comes", ROW_OF_ROOMS + """
                knock({0..4}, 0, false, 0) = 3
                way(3, {0..5}, false) = 3, 2, 1, 0, 1, 2
                way(3, {0..5}, true) = 3, 2, 1, 0, 1, 2
                """);
        Runs.holds("Promise 22", "whether the second way is taken", ROW_OF_ROOMS + """
                knock({0..3}, 0, false, 0) = 3
                way(0, 4, {false, true}) = 4
                way(0, 5, {false, true}) ! NoSuchElementException
                """);
        Runs.holds("Promise 22", "Returns how many, 0 for one and the same.", """
                way(0, 0, {false, true}) = 0
                way(5, 5, {false, true}) = 0
                door(0, 0, false, 0, 5) = 0
                knock(0, 0, false, 0) = 3
                way({0, 5}, {0, 5}, false) = 0, 1, 1, 0
                way({0, 5}, {0, 5}, true) = 0, 1, 1, 0
                """);
        Runs.holds("Promise 22", "Throws `IndexOutOfBoundsException` if there is no such room, for either", """
                way({-1, 6, LEAST, MOST}, 0, {false, true}) ! IndexOutOfBoundsException
                way(0, {-1, 6, LEAST, MOST}, {false, true}) ! IndexOutOfBoundsException
                way(-1, -1, {false, true}) ! IndexOutOfBoundsException
                way(6, 6, {false, true}) ! IndexOutOfBoundsException
                door(0, 0, false, 0, 5) = 0
                knock(0, 0, false, 0) = 3
                way({-1, 6}, {0, 5}, {false, true}) ! IndexOutOfBoundsException
                way({0, 5}, {-1, 6}, {false, true}) ! IndexOutOfBoundsException
                """);
        Runs.holds("Promise 22", "Throws `NoSuchElementException` if there is no way", """
                way(0, {1, 2, 3, 4, 5}, {false, true}) ! NoSuchElementException
                way({1, 2, 3, 4, 5}, 0, {false, true}) ! NoSuchElementException
                """ + ROW_OF_ROOMS + """
                way(0, 1, {false, true}) ! NoSuchElementException
                knock({0, 1, 3, 4}, 0, false, 0) = 3
                way({0, 2}, {3, 5}, {false, true}) ! NoSuchElementException
                way({3, 5}, {0, 2}, {false, true}) ! NoSuchElementException
                knock(2, 0, false, 0) = 3
                way(0, 5, {false, true}) = 5
                shut(2) = 4
                way(0, 5, {false, true}) ! NoSuchElementException
                """);
    }

    private static void reached() {
        Runs.holds("Promise 23", "Returns the rooms that are reached from a room through open doors.", ROW_OF_ROOMS + """
                reached({0..5}) = 1, 2, 4, 8, 16, 32
                knock(2, 0, false, 0) = 3
                reached({0..5}) = 1, 2, 12, 12, 16, 32
                knock({0, 4}, 0, false, 0) = 3
                reached({0..5}) = 3, 3, 12, 12, 48, 48
                knock(1, 0, false, 0) = 3
                reached({0..5}) = 15, 15, 15, 15, 48, 48
                knock(3, 0, false, 0) = 3
                reached({0..5}) = 63
                shut(1) = 4
                reached({0..5}) = 3, 3, 60, 60, 60, 60
                """);
        Runs.holds("Promise 23", "the room", """
                door(0, 0, false, 0, 5) = 0
                knock(0, 0, false, 0) = 3
                reached({0..5}) = 33, 2, 4, 8, 16, 33
                """);
        Runs.holds("Promise 23", "Returns their set, bit 0 for the room 0, itself included.", """
                reached(0) = 1
                reached(5) = 32
                door(0, 0, false, 0, {1..5}) = 0..4
                reached(0) = 1
                knock({0..4}, 0, false, 0) = 3
                reached({0, 5}) = 63
                """);
        Runs.holds("Promise 23", NO_ROOM, """
                reached({-1, 6, LEAST, MOST}) ! IndexOutOfBoundsException
                reached({0, 5}) = 1, 32
                """);
    }

    private static void best() {
        String words = "Returns the door that is not open by which the most rooms more would be reached from a room if it"
                + " was, of several the lowest.";
        Runs.holds("Promise 24", words, """
                door(0, 0, false, 1, 2) = 0
                door(0, 0, false, 0, {3, 1, 5}) = 1, 2, 3
                // From the room 0 by one room more, of three doors the lowest.
                best({0, 1, 2, 3, 5}) = 1, 0, 0, 1, 3
                // By two rooms more, though a lower one leads to one.
                knock(0, 0, false, 0) = 3
                best({0, 1, 2}) = 2
                best({3, 5}) = 1, 3
                door(0, 0, false, 2, 0) = 4
                best(0) = 2
                knock(4, 0, false, 0) = 3
                // By the door 2 no more are reached then.
                best({0, 1, 2}) = 1
                knock(1, 0, false, 0) = 3
                best({0, 1, 2, 3}) = 3
                best(5) = 3
                """);
        // The highest door, to five rooms more, which is the most.
        Runs.holds("Promise 24", words, """
                door(0, 0, false, 1, {2, 3, 4, 5}) = 0..3
                door(0, 0, false, 0, {5, 4}) = 4, 5
                door(0, 0, false, 1, 0) = 6
                knock({0..2}, 0, false, 0) = 3
                best(0) = 5
                knock(3, 0, false, 0) = 3
                best(0) = 4
                best({1..5}) = 4
                """);
        Runs.holds("Promise 24", words, """
                8 * door(0, 0, false, 0, 1) = 0..7
                best({0, 1}) = 0
                knock(0, 0, false, 0) = 3
                best({0, 1}) ! NoSuchElementException
                shut(0) = 0
                3 * knock({0..6}, 1, true, 1) = 0
                best({0, 1}) = 0
                """);
        Runs.holds("Promise 24", "the room", """
                door(0, 0, false, 0, 1) = 0
                door(0, 0, false, 5, 4) = 1
                best({0, 1, 4, 5}) = 0, 0, 1, 1
                """);
        Runs.holds("Promise 24", "Returns the door.", """
                7 * door(0, 0, false, 0, 1) = 0..6
                door(0, 0, false, 4, 5) = 7
                best({0, 5}) = 0, 7
                """);
        Runs.holds("Promise 24", NO_ROOM, """
                best({-1, 6, LEAST, MOST}) ! IndexOutOfBoundsException
                door(0, 0, false, 0, 5) = 0
                best({-1, 6}) ! IndexOutOfBoundsException
                best({0, 5}) = 0
                """);
        Runs.holds("Promise 24", "Throws `NoSuchElementException` if there is none by which one more would be", """
                best({0..5}) ! NoSuchElementException
                door(0, 0, false, 0, 1) = 0
                door(0, 0, false, 1, 2) = 1
                door(0, 0, false, 2, 0) = 2
                best({3, 5}) ! NoSuchElementException
                best({0, 1, 2}) = 0, 0, 1
                knock(0, 0, false, 0) = 3
                best({0, 1, 2}) = 1
                knock(1, 0, false, 0) = 3
                // The door 2 is not open, but its rooms are reached.
                best({0, 1, 2}) ! NoSuchElementException
                door(0, 0, false, 2, 3) = 3
                best({0, 1, 2, 3}) = 3
                """);
    }

    private static void ranked() {
        String words = "Returns a door by a measure: the most first, of several the lowest.";
        Runs.holds("Promise 25", words, """
                8 * door(0, 0, false, 0, 1) = 0..7
                ranked({0, 1}, {0..7}) = 0, 1, 2, 3, 4, 5, 6, 7, 0, 1, 2, 3, 4, 5, 6, 7
                knock(7, 1, true, 1) = 0
                ranked({0, 1}, {0..7}) = 7, 0, 1, 2, 3, 4, 5, 6, 7, 0, 1, 2, 3, 4, 5, 6
                2 * knock(3, 1, true, 1) = 0
                ranked({0, 1}, {0..7}) = 3, 7, 0, 1, 2, 4, 5, 6, 3, 7, 0, 1, 2, 4, 5, 6
                knock({0, 7}, 1, true, 1) = 0
                ranked({0, 1}, {0..7}) = 3, 7, 0, 1, 2, 4, 5, 6, 3, 7, 0, 1, 2, 4, 5, 6
                """);
        Runs.holds("Promise 25", "0 by knocks so far, 1 by wrong knocks that are not forgotten", """
                door(0, 0, false, 0, {1, 2, 3}) = 0, 1, 2
                key(0, 0) = 0
                2 * knock(0, 1, true, 1) = 0
                knock(0, 0, false, 0) = 3
                2 * knock(1, 1, true, 1) = 0
                knock(2, 1, true, 1) = 0
                ranked(0, {0, 1, 2}) = 0, 1, 2
                ranked(1, {0, 1, 2}) = 1, 2, 0
                knock(1, 1, true, 1) = 0
                ranked(0, {0, 1, 2}) = 0, 1, 2
                ranked(1, {0, 1, 2}) = 1, 2, 0
                free(0, 1) = 0
                ranked(0, {0, 1, 2}) = 0, 1, 2
                ranked(1, {0, 1, 2}) = 2, 0, 1
                """);
        Runs.holds("Promise 25", "the place in this order, from 0", """
                door(0, 0, false, 0, 1) = 0
                ranked({0, 1}, 0) = 0
                ranked({0, 1}, {-1, 1}) ! NoSuchElementException
                door(0, 0, false, 0, 1) = 1
                ranked({0, 1}, {0, 1}) = 0, 1, 0, 1
                ranked({0, 1}, {-1, 2}) ! NoSuchElementException
                """);
        Runs.holds("Promise 25", "Returns the door.", """
                7 * door(0, 0, false, 0, 1) = 0..6
                door(1, 0, false, 0, 1) = 7
                knock(7, 0, false, 0) = 3
                ranked(0, {0, 7}) = 7, 6
                ranked(1, {0, 7}) = 0, 7
                """);
        Runs.holds("Promise 25", "Throws `IllegalArgumentException` if there is no such measure", """
                ranked({-1, 2, LEAST, MOST}, 0) ! IllegalArgumentException
                door(0, 0, false, 0, 1) = 0
                ranked({-1, 2, LEAST, MOST}, 0) ! IllegalArgumentException
                ranked({-1, 2}, {-1, 1}) ! IllegalArgumentException
                ranked({0, 1}, 0) = 0
                """);
        Runs.holds("Promise 25", "Throws `NoSuchElementException` if there is no such place", """
                ranked({0, 1}, {-1, 0, LEAST, MOST}) ! NoSuchElementException
                8 * door(0, 0, false, 0, 1) = 0..7
                ranked({0, 1}, {-1, 8, LEAST, MOST}) ! NoSuchElementException
                ranked({0, 1}, {0, 7}) = 0, 7, 0, 7
                undo() = 7
                ranked({0, 1}, 7) ! NoSuchElementException
                """);
    }

    private static void isRight() {
        String words = "Tells by a second way whether all is right: forms are alike by both ways for all pairs of doors, ways"
                + " agree by both ways for all pairs of rooms, each door could be in its case, and no door that is open has"
                + " a latch that is down.";
        Runs.holds("Promise 26", words, "isRight() = true\n" + ROW_OF_ROOMS + """
                door(2, 2, true, 5, 0) = 5
                door(2, 2, true, 5, 1) = 6
                door(0, 0, true, 0, 4) = 7
                isRight() = true
                threshold({3, 1}) = 0, 1
                set({5, 7}, 0) = 3
                set(6, 1) = 1
                isRight() = true
                tellEnding(2, {0..3}, true, 25) = 14, 0, 8, 20
                tellEnding(0, {0, 3}, true, 0) = 4, 8
                isRight() = true
                knock({0..4}, 0, false, 0) = 3
                3 * knock({5, 6}, 0, false, 0) = 0
                isRight() = true
                govern(0, 0) = 3
                key(2, 2) = 0
                free(0, 5) = 1
                knock(5, 2, true, 0) = 3
                isRight() = true
                shut({5, 0}) = 5, 4
                isRight() = true
                undo() = 7
                isRight() = true
                clear() = 8
                isRight() = true
                """);
        Runs.holds("Promise 26", "Returns whether it is so.", """
                isRight() = true
                door(0, 0, false, 0, 1) = 0
                isRight() = true
                """);
    }

    private static void line() {
        String words = "Writes a door as a line, in place of the line before: its form, its one room, \"-\" and the other"
                + " one, \"@\" and its threshold, if it stands on one, and \"+\" if it is open, or \"!\" and its wrong knocks,"
                + " if there are some; as in \"osa1-2@0!2\".";
        Runs.holds("Promise 27", words, """
                door(0, 0, false, 1, 2) = 0
                threshold(0) = 0
                line(0) = "osa1-2"
                knock(0, 1, false, 0) = 2
                line(0) = "osa1-2!1"
                set(0, 0) = 0
                line(0) = "osa1-2@0!1"
                knock(0, 1, false, 0) = 2
                line(0) = "osa1-2@0!2"
                knock(0, 1, false, 0) = 2
                line(0) = "osa1-2@0!3"
                """);
        Runs.holds("Promise 27", words, """
                door(2, 2, true, 5, 0) = 0
                line(0) = "gdo5-0"
                6 * threshold(3) = 0..5
                set(0, 5) = 3
                line(0) = "gdu5-0@5"
                2 * knock(0, 2, true, 0) = 2
                line(0) = "gdu5-0@5!2"
                knock(0, 2, true, 3) = 3
                line(0) = "gdu5-0@5+"
                set(0, -1) = 0
                line(0) = "gdo5-0+"
                shut(0) = 0
                line(0) = "gdo5-0"
                tellEnding(2, 0, true, 25) = 14
                line(0) = "gdz5-0"
                // Nothing of a longer line is left behind a shorter one.
                character({6..10}) ! IndexOutOfBoundsException
                """);
        Runs.holds("Promise 27", "the door", """
                door({0, 1, 2}, {0, 1}, false, 0, 1) = 0..5
                door(0, 2, {false, true}, 4, 5) = 6, 7
                line(0) = "osa0-1"
                line(1) = "isa0-1"
                line(2) = "ose0-1"
                line(5) = "isi0-1"
                line(6) = "gsa4-5"
                line(7) = "gde4-5"
                """);
        Runs.holds("Promise 27", "Returns the length of the line.", """
                door(0, 0, false, 1, 2) = 0
                line(0) = 6
                knock(0, 1, false, 0) = 2
                line(0) = 8
                threshold(0) = 0
                set(0, 0) = 0
                line(0) = 10
                knock(0, 0, false, 0) = 3
                line(0) = 9
                set(0, -1) = 0
                line(0) = 7
                """);
        Runs.holds("Promise 27", "Throws `IndexOutOfBoundsException` if there is no such door", """
                line({-1, 0, LEAST, MOST}) ! IndexOutOfBoundsException
                door(0, 0, false, 0, 1) = 0
                line(0) = "osa0-1"
                line({-1, 1}) ! IndexOutOfBoundsException
                character({0..5}) = 'o', 's', 'a', '0', '-', '1'
                7 * door(0, 0, false, 0, 1) = 1..7
                line({-1, 8, LEAST, MOST}) ! IndexOutOfBoundsException
                line(7) = "osa0-1"
                """);
    }

    private static void endings() {
        String words = "Writes the endings of a declension as a line, in place of the line before: for each case that of"
                + " single doors, \"/\", and for each case that of double ones; as in \"aiue/eoai\".";
        Runs.holds("Promise 28", words, """
                endings(0) = "aiue/eoai"
                endings(1) = "eoai/iueo"
                endings(2) = "iueo/oaiu"
                tellEnding(1, {0, 3}, {false, true}, 25) = 4, 8, 8, 14
                endings(0) = "aiue/eoai"
                endings(1) = "zoaz/zuez"
                endings(2) = "iueo/oaiu"
                tellEnding(1, 0, false, 0) = 25
                endings(1) = "aoaz/zuez"
                """);
        Runs.holds("Promise 28", words, """
                door(0, 0, false, 0, 1) = 0
                threshold(0) = 0
                set(0, 0) = 0
                knock(0, 1, false, 0) = 2
                line(0) = "osa0-1@0!1"
                endings(0) = "aiue/eoai"
                character(9) ! IndexOutOfBoundsException
                """);
        Runs.holds("Promise 28", "the declension", """
                tellEnding({0, 2}, 0, false, 25) = 0, 8
                endings(0) = "ziue/eoai"
                endings(1) = "eoai/iueo"
                endings(2) = "zueo/oaiu"
                """);
        Runs.holds("Promise 28", "Returns the length of the line.", """
                endings({0, 1, 2}) = 9
                """);
        Runs.holds("Promise 28", "Throws `IllegalArgumentException` if there is no such declension", """
                endings({-1, 3, LEAST, MOST}) ! IllegalArgumentException
                character(0) ! IndexOutOfBoundsException
                endings(2) = "iueo/oaiu"
                endings({-1, 3}) ! IllegalArgumentException
                character({0, 8}) = 'i', 'u'
                """);
    }

    private static void character() {
        Runs.holds("Promise 29", "Returns a character of the line, which is empty at first.", """
                character({-1, 0, 1}) ! IndexOutOfBoundsException
                door(0, 0, false, 0, 5) = 0
                character(0) ! IndexOutOfBoundsException
                line(0) = 6
                character({0..5}) = 'o', 's', 'a', '0', '-', '5'
                endings(0) = 9
                character({0..8}) = 'a', 'i', 'u', 'e', '/', 'e', 'o', 'a', 'i'
                """);
        Runs.holds("Promise 29", "the index, from 0", """
                endings(2) = 9
                character({0, 8}) = 'i', 'u'
                character({-1, 9}) ! IndexOutOfBoundsException
                """);
        Runs.holds("Promise 29", "Returns the character.", """
                door(0, 0, false, 0, 5) = 0
                threshold(0) = 0
                set(0, 0) = 0
                knock(0, 0, true, 0) = 2
                line(0) = 10
                character({0..9}) = 'o', 's', 'a', '0', '-', '5', '@', '0', '!', '1'
                // The line is what was written, not what the door is by now.
                knock(0, 0, false, 0) = 3
                character({8, 9}) = '!', '1'
                line(0) = 9
                character(8) = '+'
                """);
        Runs.holds("Promise 29", "Throws `IndexOutOfBoundsException` if there is no such index", """
                character({-1, 0, LEAST, MOST}) ! IndexOutOfBoundsException
                door(0, 0, false, 0, 5) = 0
                line(0) = 6
                character({-1, 6, LEAST, MOST}) ! IndexOutOfBoundsException
                character(5) = '5'
                endings(0) = 9
                character({-1, 9}) ! IndexOutOfBoundsException
                line(0) = 6
                character({6, 8}) ! IndexOutOfBoundsException
                """);
    }

    private static void refusal() {
        Runs.holds("Promise 30", "Returns the reason of the latest refusal or its detail.", """
                door(0, 0, false, 0, 1) = 0
                shut(0) ! UnsupportedOperationException 5 0
                refusal({false, true}) = 5, 0
                set(0, -1) ! UnsupportedOperationException 2 -1
                refusal({false, true}) = 2, -1
                7 * door(0, 0, false, 0, 1) = 1..7
                door(0, 0, false, 0, 1) ! UnsupportedOperationException 1 8
                // What throws something else is no refusal.
                shut(8) ! IndexOutOfBoundsException
                door(0, 0, false, 1, 1) ! IllegalArgumentException
                refusal({false, true}) = 1, 8
                read "shut0" ! UnsupportedOperationException order 0 refusal 5 0
                refusal({false, true}) = 5, 0
                read "shut8" ! UnsupportedOperationException order 0
                refusal({false, true}) = 5, 0
                """);
        Runs.holds("Promise 30", "true for the detail, false for the reason", """
                tellEnding(0, 0, false, 25) = 0
                tellEnding(0, 0, false, 25) ! UnsupportedOperationException 2 25
                refusal(false) = 2
                refusal(true) = 25
                """);
        Runs.holds("Promise 30", "Returns the number.", """
                door(0, 0, false, 0, 1) = 0
                key(1, 1) = 0
                3 * knock(0, 1, true, 1) = 0
                free(0, 0) ! UnsupportedOperationException 7 0
                refusal({false, true}) = 7, 0
                threshold(0) = 0
                govern(0, 0) ! UnsupportedOperationException 2 0
                refusal({false, true}) = 2, 0
                """);
        Runs.holds("Promise 30", "Throws `IllegalStateException` if nothing was refused", """
                refusal({false, true}) ! IllegalStateException
                shut(0) ! IndexOutOfBoundsException
                undo() ! IllegalStateException
                read "x" ! IllegalArgumentException at 0
                read "shut0" ! UnsupportedOperationException order 0
                refusal({false, true}) ! IllegalStateException
                threshold(0) = 0
                govern(0, 0) ! UnsupportedOperationException 2 0
                clear() = 0
                refusal({false, true}) = 2, 0
                """);
    }

    private static final String ACCOUNTS = "0 for the doors, 1 for the thresholds, 2 for the keys, 3 for the open doors, 4 for"
            + " the latches that are down, 5 for the knocks so far, 6 for those that agreed in all three, 7 for those that"
            + " were wrong, 8 for the latches that fell so far, 9 for the doors freed so far, 10 for the unlike endings, 11"
            + " for the characters in the buffer, 12 for the changes that can be undone";

    // From f on, so that none is told that is so already.
    private static String unlikeEndings(int count) {
        StringBuilder rows = new StringBuilder();
        for (int place = 0; place < count; place++) {
            int before = "aeiou".charAt((place / 8 + 2 * (place / 2 % 4) + place % 2) % 5) - 'a';
            rows.append(String.format("tellEnding(%d, %d, %b, %d) = %d%n", place / 8, place / 2 % 4, place % 2 == 1,
                    (place + 5) % 26, before));
        }
        return rows.toString();
    }

    private static void account() {
        Runs.holds("Promise 31", "Returns an account.", """
                account({0..12}) = 0, 0, 0, 0, 0, 0, 0, 0, 0, 0, 5, 0, 0
                """);
        Runs.holds("Promise 31", ACCOUNTS, """
                7 * door(0, 0, false, 0, 1) = 0..6
                account({0, 12}) = 7
                door(0, 0, false, 0, 1) = 7
                account({0, 12}) = 8
                door(0, 0, false, 0, 1) ! UnsupportedOperationException 1 8
                account({0, 12}) = 8
                5 * threshold(0) = 0..4
                account(1) = 5
                threshold(0) = 5
                account(1) = 6
                key({0, 1}, {0, 1}) = 0..3
                account(2) = 4
                key(2, 2) = 4
                account(2) = 5
                account({3..9}) = 0
                account(12) = 8
                """);
        // There are 24 endings, so that at most as many are unlike, and at least one is.
        Runs.holds("Promise 31", ACCOUNTS, """
                account(10) = 5
                tellEnding(0, 0, false, 25) = 0
                account(10) = 6
                tellEnding(0, 0, false, 4) = 25
                account(10) = 5
                tellEnding({0..2}, {0..3}, {false, true}, 7) = 4, 4, 8, 14, 20, 0, 4, 8, 4, 8, 14, 20, 0, 4, 8, 14, 8, 14, 20, 0, 4, 8, 14, 20
                account(10) = 1
                tellEnding(0, 0, false, 25) = 7
                account(10) = 2
                clear() = 0
                account(10) = 5
                """);
        Runs.holds("Promise 31", ACCOUNTS, unlikeEndings(23) + """
                // The last one is as yet the u that was there, which another ending is, too.
                account(10) = 23
                often('u') = 2
                tellEnding(2, 3, true, 2) = 20
                account(10) = 24
                often({'c', 'd', 'e', 'f'}) = 1, 0, 0, 1
                """);
        Runs.holds("Promise 31", ACCOUNTS, """
                account(11) = 0
                append(0x20) = 1
                account(11) = 1
                append "234567890123456789012345678901234567890123456789012345678" = 58
                append(0x20) = 59
                account(11) = 59
                append(0x20) = 60
                account(11) = 60
                append(0x20) ! IllegalStateException
                account(11) = 60
                read "" ! IllegalArgumentException at 0
                account({11, 12}) = 0
                """);
        Runs.holds("Promise 31", "Returns the account.", """
                6 * threshold(0) = 0..5
                account({0, 1, 2}) = 0, 6, 0
                """);
        Runs.holds("Promise 31", "Throws `IllegalArgumentException` if what is out of range", """
                account({-1, 13, LEAST, MOST}) ! IllegalArgumentException
                account({0, 12}) = 0
                """);
    }

    private static void accountsOfKnocks() {
        Runs.holds("Promise 31", ACCOUNTS, """
                door(0, 0, false, 0, {1, 2}) = 0, 1
                key(0, 0) = 0
                2 * knock({0, 1}, 1, true, 1) = 0
                account({3..9}) = 0, 0, 4, 0, 4, 0, 0
                knock(0, 1, true, 1) = 0
                account({3..9}) = 0, 1, 5, 0, 5, 1, 0
                knock(1, 0, false, 0) = 3
                account({3..9}) = 1, 1, 6, 1, 5, 1, 0
                free(0, 0) = 0
                account({3..9}) = 1, 0, 6, 1, 5, 1, 1
                shut(1) = 0
                account({3..9}) = 0, 0, 6, 1, 5, 1, 1
                3 * knock(0, 1, true, 1) = 0
                account({3..9}) = 0, 1, 9, 1, 8, 2, 1
                free(0, 0) = 0
                account({3..9}) = 0, 0, 9, 1, 8, 2, 2
                undo() = 7
                account({3..9}) = 0, 1, 9, 1, 8, 2, 1
                undo() = 6
                account({3..9}) = 0, 0, 8, 1, 7, 1, 1
                """);
        Runs.holds("Promise 31", ACCOUNTS, """
                8 * door(0, 0, false, 0, 1) = 0..7
                knock({0..7}, 0, false, 0) = 3
                account({3..9}) = 8, 0, 8, 8, 0, 0, 0
                shut({0..7}) = 7..0
                3 * knock({0..7}, 1, true, 1) = 0
                account({3..9}) = 0, 8, 32, 8, 24, 8, 0
                """);
    }

    private static void meanKnocks() {
        Runs.holds("Promise 32", "Returns the mean of the knocks at the doors so far: the sum divided by their number, both"
                + " converted to double.", """
                door(0, 0, false, 0, {1, 2, 3}) = 0, 1, 2
                meanKnocks() = 0.0
                knock(0, 0, false, 0) = 3
                meanKnocks() = 0.3333333333333333
                knock(1, 1, false, 0) = 2
                meanKnocks() = 0.6666666666666666
                knock(1, 0, false, 0) = 3
                meanKnocks() = 1.0
                knock(2, 1, false, 0) = 2
                meanKnocks() = 1.3333333333333333
                door(0, 0, false, 4, 5) = 3
                meanKnocks() = 1.0
                """);
        Runs.holds("Promise 32", "Returns the mean.", """
                8 * door(0, 0, false, 0, 1) = 0..7
                knock(7, 0, false, 0) = 3
                meanKnocks() = 0.125
                undo() = 7
                meanKnocks() = 0.0
                """);
        Runs.holds("Promise 32", "Throws `ArithmeticException` if there are no doors", """
                meanKnocks() ! ArithmeticException
                door(0, 0, false, 0, 1) = 0
                meanKnocks() = 0.0
                undo() = 0
                meanKnocks() ! ArithmeticException
                """);
    }

    private static void agreedShare() {
        Runs.holds("Promise 33", "Returns the share of the knocks so far that agreed in all three, both numbers converted to"
                + " float.", """
                door(0, 0, false, 0, {1, 2, 3}) = 0, 1, 2
                knock(0, 0, true, 0) = 2
                agreedShare() = 0.0
                knock(0, 0, false, 0) = 3
                agreedShare() = 0.5
                knock(1, 0, true, 0) = 2
                agreedShare() = 0.33333334
                2 * knock(2, 0, true, 0) = 2
                agreedShare() = 0.2
                knock({1, 2}, 0, false, 0) = 3
                agreedShare() = 0.42857143
                """);
        Runs.holds("Promise 33", "Returns the share.", """
                door(0, 0, false, 0, 1) = 0
                knock(0, 0, false, 0) = 3
                agreedShare() = 1.0
                knock(0, 0, false, 0) ! UnsupportedOperationException 4 1
                agreedShare() = 1.0
                """);
        Runs.holds("Promise 33", "Throws `ArithmeticException` if there were none", """
                agreedShare() ! ArithmeticException
                door(0, 0, false, 0, 1) = 0
                agreedShare() ! ArithmeticException
                knock(0, 1, false, 0) = 2
                agreedShare() = 0.0
                undo() = 1
                agreedShare() ! ArithmeticException
                knock(0, 0, false, 0) = 3
                clear() = 1
                agreedShare() ! ArithmeticException
                """);
    }
}
