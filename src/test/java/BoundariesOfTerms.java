/** The sentences of the document's Terms, but those on the input, which stand in BoundariesOfInput. */
final class BoundariesOfTerms {
    private static final String TERMS = "Terms";

    private BoundariesOfTerms() {
    }

    static void hold() {
        calls();
        numbers();
        grammar();
        endings();
        doors();
        thresholds();
        knocks();
        latches();
        keys();
        refusals();
        refusalsOfKnocks();
        changes();
        details();
        exceptions();
        whatIsNotUndone();
    }

    private static void calls() {
        // The calls 1 to 509 make and undo 508 changes, and the last three are asked.
        Runs.holdsAtLast("What it is", "An object is used for at most 512 calls after it has been made", 512,
                "door(0, 0, false, 0, 1) = 0\n" + "knock(0, 0, false, 0) = 3\nshut(0) = 0\n".repeat(254)
                + """
                doorOf(0, 10) = 254
                account(5) = 254
                account(12) = 8
                """);
        // Many more changes than can be undone, and then all of those that can.
        Runs.holdsAtLast("What it is", "An object is used for at most 512 calls after it has been made", 512,
                "tellEnding(2, 3, true, {25, 0..24, 25, 0}) = 20, 25, 0..23, 24, 25\n"
                + "tellEnding(2, 3, true, {25, 12, 0}) = 0, 25, 12\n".repeat(158)
                + """
                undo() = 7
                undo() = 6
                undo() = 5
                undo() = 4
                undo() = 3
                undo() = 2
                undo() = 1
                undo() = 0
                ending(2, 3, true) = 'z'
                undo() ! IllegalStateException
                """);
    }

    private static void numbers() {
        Runs.holds(TERMS, "All numbers are whole, but where it is said", """
                door(0, 0, false, 0, {1, 2}) = 0, 1
                knock(0, 1, false, 0) = 2
                meanKnocks() = 0.5
                knock(1, 0, false, 0) = 3
                agreedShare() = 0.5
                """);
        // 9 by 5 is 1, with 4 left.
        Runs.holds(TERMS, "divisions are rounded down", """
                ending(2, 3, true) = 'u'
                """);
        Runs.holds(TERMS, "A knock agrees with its door.", """
                door(0, 0, false, 0, 1) = 0
                agrees(0, 0, false, 0) = 3
                knock(0, 0, false, 0) = 3
                """);
    }

    private static void grammar() {
        Runs.holds(TERMS, "There are the declensions 0 to 2", """
                door({0, 2}, 0, false, 0, 1) = 0, 1
                door({-1, 3}, 0, false, 0, 1) ! IllegalArgumentException
                key({0, 2}, 0) = 0, 1
                key({-1, 3}, 0) ! IllegalArgumentException
                tellEnding({0, 2}, 0, false, 25) = 0, 8
                tellEnding({-1, 3}, 0, false, 25) ! IllegalArgumentException
                ending({0, 1, 2}, 0, false) = 'z', 'e', 'z'
                ending({-1, 3}, 0, false) ! IllegalArgumentException
                syncretic({0, 2}) = 0
                syncretic({-1, 3}) ! IllegalArgumentException
                endings(0) = "ziue/eoai"
                endings(2) = "zueo/oaiu"
                endings({-1, 3}) ! IllegalArgumentException
                """);
        Runs.holds(TERMS, "the genders 0 to 2, with the letters o for oak, i for iron and g for glass", """
                door(0, {0, 1, 2}, false, 0, 1) = 0, 1, 2
                door(0, {-1, 3}, false, 0, 1) ! IllegalArgumentException
                key(0, {0, 2}) = 0, 1
                key(0, {-1, 3}) ! IllegalArgumentException
                line(0) = "osa0-1"
                line(1) = "isa0-1"
                line(2) = "gsa0-1"
                agrees(0, {0, 1, 2}, false, 0) = 3, 2, 2
                agrees(0, {-1, 3}, false, 0) ! IllegalArgumentException
                knock(0, {0, 2}, true, 0) = 2, 1
                knock(0, {-1, 3}, false, 0) ! IllegalArgumentException
                """);
        Runs.holds(TERMS, "the numbers single and double, with the letters s and d", """
                door(0, 0, {false, true}, 0, 1) = 0, 1
                line(0) = "osa0-1"
                line(1) = "ode0-1"
                doorOf({0, 1}, 2) = 0, 1
                """);
        Runs.holds(TERMS, "and the cases 0 to 3, with the letters O for open, S for shut, A for ajar and L for locked", """
                door(0, 0, false, 0, 1) = 0
                read "sillO" "sillS" "sillA" "sillL" = 1
                thresholdOf({0..3}, 0) = 0..3
                threshold({0, 3}) = 4, 5
                threshold({-1, 4}) ! IllegalArgumentException
                govern(0, 3) = 0
                govern(0, 0) = 3
                govern(0, {-1, 4}) ! IllegalArgumentException
                tellEnding(0, {0, 3}, false, 25) = 0, 4
                tellEnding(0, {-1, 4}, false, 25) ! IllegalArgumentException
                ending(0, {0, 1, 2, 3}, false) = 'z', 'i', 'u', 'z'
                ending(0, {-1, 4}, false) ! IllegalArgumentException
                agrees(0, 0, false, {0..3}) = 3, 2, 2, 2
                agrees(0, 0, false, {-1, 4}) ! IllegalArgumentException
                knock(0, 0, false, 3) = 2
                knock(0, 0, false, {-1, 4}) ! IllegalArgumentException
                knock(0, 0, false, 0) = 3
                """);
    }

    private static void endings() {
        Runs.holds(TERMS, "For each declension, case and number there is an ending, one of the letters a to z, told by"
                + " 0 to 25", """
                tellEnding(0, 0, false, 25) = 0
                ending(0, 0, false) = 'z'
                tellEnding(0, 0, false, 0) = 25
                ending(0, 0, false) = 'a'
                tellEnding(0, 0, false, {-1, 26}) ! IllegalArgumentException
                tellEnding({0, 1, 2}, {0..3}, {false, true}, 21) = 0, 4, 8, 14, 20, 0, 4, 8, 4, 8, 14, 20, 0, 4, 8, 14, 8, 14, 20, 0, 4, 8, 14, 20
                often('v') = 24
                """);
        // The numbers 0 to 9 that are divided: 5 goes round to a, and 9 to u.
        Runs.holds(TERMS, "At first it is the vowel a, e, i, o or u with the number that is left when the declension,"
                + " twice the case, and 1 for double or 0 for single, together, are divided by 5, where a has the"
                + " number 0.", """
                ending(0, 0, false) = 'a'
                ending(1, 0, false) = 'e'
                ending(2, 0, false) = 'i'
                ending(2, 0, true) = 'o'
                ending(0, 2, false) = 'u'
                ending(2, 1, false) = 'u'
                ending(0, 2, true) = 'a'
                ending(2, 1, true) = 'a'
                ending(1, 2, false) = 'a'
                ending(0, 3, false) = 'e'
                ending(0, 3, true) = 'i'
                ending(2, 3, false) = 'o'
                ending(2, 3, true) = 'u'
                ending({0..2}, {0..3}, false) = 'a', 'i', 'u', 'e', 'e', 'o', 'a', 'i', 'i', 'u', 'e', 'o'
                ending({0..2}, {0..3}, true) = 'e', 'o', 'a', 'i', 'i', 'u', 'e', 'o', 'o', 'a', 'i', 'u'
                """);
    }

    private static void doors() {
        Runs.holds(TERMS, "At most 8 doors are there, numbered from 0, each with a declension, a gender and a number,"
                + " between two of the rooms 0 to 5.", """
                doorOf({-1, 0}, 0) ! IndexOutOfBoundsException
                door(2, 1, true, 0, 5) = 0
                doorOf(0, {0, 1, 2, 8, 9}) = 2, 1, 1, 0, 5
                doorOf({-1, 1}, 0) ! IndexOutOfBoundsException
                7 * door(0, 2, false, 5, 0) = 1..7
                doorOf(7, {0, 1, 2, 8, 9}) = 0, 2, 0, 5, 0
                doorOf({-1, 8}, 0) ! IndexOutOfBoundsException
                account(0) = 8
                door(0, 0, false, 0, 5) ! UnsupportedOperationException 1 8
                door(0, 0, false, {-1, 6}, 0) ! IndexOutOfBoundsException
                door(0, 0, false, 5, {-1, 6}) ! IndexOutOfBoundsException
                undo() = 7
                door(0, 0, false, 0, 5) = 7
                """);
        Runs.holds(TERMS, "A door is open or not, at first not.", """
                8 * door(0, 0, false, 0, 1) = 0..7
                doorOf({0..7}, 7) = 0
                account(3) = 0
                knock({0..7}, 0, false, 0) = 3
                doorOf({0..7}, 7) = 1
                account(3) = 8
                shut({0..7}) = 7..0
                doorOf({0..7}, 7) = 0
                """);
        Runs.holds(TERMS, "It stands on a threshold, or on none, as at first.", """
                threshold(1) = 0
                door(0, 0, false, 0, 1) = 0
                doorOf(0, 3) = -1
                thresholdOf(0, 1) = 0
                set(0, 0) = 1
                doorOf(0, 3) = 0
                door(0, 0, false, 0, 1) = 1
                doorOf(1, 3) = -1
                """);
        Runs.holds(TERMS, "The case of a door is that which its threshold governs, or the case 0 without one.", """
                door(0, 0, false, 0, 1) = 0
                doorOf(0, 4) = 0
                threshold({3, 1, 0}) = 0, 1, 2
                set(0, {0, 1, 2}) = 3, 1, 0
                doorOf(0, 4) = 0
                govern(2, 3) = 0
                doorOf(0, 4) = 3
                set(0, -1) = 0
                doorOf(0, 4) = 0
                """);
        Runs.holds(TERMS, "Its form is the letter of its gender, that of its number, and the ending for its"
                + " declension, its case and its number.", """
                door(0, 0, false, 0, 1) = 0
                door(2, 2, true, 5, 4) = 1
                threshold(3) = 0
                line(0) = "osa0-1"
                line(1) = "gdo5-4"
                set({0, 1}, 0) = 3
                line(0) = "ose0-1@0"
                line(1) = "gdu5-4@0"
                tellEnding(2, 3, true, 25) = 20
                line(0) = "ose0-1@0"
                line(1) = "gdz5-4@0"
                """);
    }

    private static void thresholds() {
        Runs.holds(TERMS, "At most 6 thresholds are there, numbered from 0, each of which governs a case.", """
                thresholdOf({-1, 0}, 0) ! IndexOutOfBoundsException
                threshold(3) = 0
                thresholdOf(0, 0) = 3
                thresholdOf({-1, 1}, 0) ! IndexOutOfBoundsException
                5 * threshold(1) = 1..5
                thresholdOf({0..5}, 0) = 3, 1, 1, 1, 1, 1
                thresholdOf({-1, 6}, 0) ! IndexOutOfBoundsException
                account(1) = 6
                threshold(0) ! UnsupportedOperationException 1 6
                undo() = 5
                threshold(0) = 5
                """);
    }

    private static void knocks() {
        Runs.holds(TERMS, "A knock is told by a gender, a number and a case.", """
                door(0, {0, 1, 2}, false, 0, 1) = 0, 1, 2
                door(0, {0, 1, 2}, true, 0, 1) = 3, 4, 5
                threshold(3) = 0
                set(5, 0) = 3
                knock({0, 1, 2}, 2, true, 0) = 1, 1, 2
                knock({3, 4, 5}, 2, true, 3) = 1, 1, 3
                """);
        Runs.holds(TERMS, "It agrees with a door in each of the three that the door has, too.", """
                door(0, 1, true, 0, 1) = 0
                threshold(2) = 0
                set(0, 0) = 2
                agrees(0, 0, false, 0) = 0
                agrees(0, 1, false, 0) = 1
                agrees(0, 0, true, 0) = 1
                agrees(0, 0, false, 2) = 1
                agrees(0, 1, true, 0) = 2
                agrees(0, 1, false, 2) = 2
                agrees(0, 0, true, 2) = 2
                agrees(0, 1, true, 2) = 3
                """);
        Runs.holds(TERMS, "If it agrees in all three, the door opens, and its wrong knocks are forgotten", """
                door(0, 1, true, 0, 1) = 0
                2 * knock(0, 1, true, 1) = 2
                doorOf(0, {5, 6, 7}) = 2, 0, 0
                knock(0, 1, true, 0) = 3
                doorOf(0, {5, 6, 7}) = 0, 0, 1
                account({6, 7}) = 1, 2
                shut(0) = 0
                2 * knock(0, 1, true, 1) = 2
                doorOf(0, {5, 6, 7}) = 2, 0, 0
                knock(0, 1, true, 1) = 2
                doorOf(0, {5, 6, 7}) = 3, 1, 0
                """);
        Runs.holds(TERMS, "otherwise it is a wrong knock", """
                8 * door(0, 1, true, 0, 1) = 0..7
                knock(0, 0, false, 1) = 0
                knock(1, 1, false, 1) = 1
                knock(2, 0, true, 1) = 1
                knock(3, 0, false, 0) = 1
                knock(4, 1, true, 1) = 2
                knock(5, 1, false, 0) = 2
                knock(6, 0, true, 0) = 2
                doorOf({0..6}, 5) = 1
                doorOf({0..6}, 7) = 0
                account({6, 7}) = 0, 7
                knock(7, 1, true, 0) = 3
                doorOf(7, 5) = 0
                account({6, 7}) = 1, 7
                """);
    }

    private static void latches() {
        Runs.holds(TERMS, "At the third wrong knock that is not forgotten the latch of the door falls.", """
                door(0, 0, false, 0, {1, 2}) = 0, 1
                knock(0, 2, true, 3) = 0
                doorOf(0, {5, 6}) = 1, 0
                knock(0, 2, true, 3) = 0
                doorOf(0, {5, 6}) = 2, 0
                account({4, 8}) = 0
                knock(0, 0, false, 3) = 2
                doorOf(0, {5, 6, 7}) = 3, 1, 0
                account({4, 8}) = 1
                doorOf(1, {5, 6}) = 0
                """);
        // Those that are forgotten by an opening don't count for the third one.
        Runs.holds(TERMS, "At the third wrong knock that is not forgotten the latch of the door falls.", """
                door(0, 0, false, 0, 1) = 0
                2 * knock(0, 2, true, 3) = 0
                knock(0, 0, false, 0) = 3
                shut(0) = 0
                2 * knock(0, 2, true, 3) = 0
                account({4, 7, 8}) = 0, 4, 0
                knock(0, 2, true, 3) = 0
                account({4, 7, 8}) = 1, 5, 1
                """);
        Runs.holds(TERMS, "A door whose latch is down hears no knock until it is freed.", """
                door(0, 0, false, 0, 1) = 0
                key(0, 0) = 0
                2 * knock(0, 2, true, 3) = 0
                knock(0, 2, true, 3) = 0
                knock(0, 0, false, 0) ! UnsupportedOperationException 3 1
                knock(0, 2, true, 3) ! UnsupportedOperationException 3 1
                doorOf(0, {5, 6, 7, 10}) = 3, 1, 0, 3
                free(0, 0) = 0
                knock(0, 0, false, 0) = 3
                doorOf(0, {5, 6, 7, 10}) = 0, 0, 1, 4
                """);
    }

    private static void keys() {
        Runs.holds(TERMS, "At most 5 keys are there, numbered from 0, each with a declension and a gender, no two with"
                + " the same ones.", """
                door(0, 0, false, 0, 1) = 0
                free({-1, 0}, 0) ! IndexOutOfBoundsException
                key(0, 0) = 0
                free(0, 0) ! UnsupportedOperationException 6 0
                free({-1, 1}, 0) ! IndexOutOfBoundsException
                key(0, 0) ! UnsupportedOperationException 2 0
                key({1, 2}, 0) = 1, 2
                key(0, {1, 2}) = 3, 4
                key(0, 2) ! UnsupportedOperationException 2 4
                free(4, 0) ! UnsupportedOperationException 6 0
                free({-1, 5}, 0) ! IndexOutOfBoundsException
                account(2) = 5
                key(2, 2) ! UnsupportedOperationException 1 5
                undo() = 5
                key(2, 2) = 4
                """);
        Runs.holds(TERMS, "A key fits a door that has both.", """
                door(1, 2, false, 0, 1) = 0
                3 * knock(0, 0, true, 1) = 0
                key(0, 0) = 0
                key(1, 0) = 1
                key(0, 2) = 2
                key(2, 1) = 3
                keysFor(0) = 0
                free(0, 0) ! UnsupportedOperationException 7 0
                free({1, 2}, 0) ! UnsupportedOperationException 7 1
                free(3, 0) ! UnsupportedOperationException 7 0
                key(1, 2) = 4
                keysFor(0) = 16
                free(4, 0) = 0
                """);
        Runs.holds(TERMS, "To free a door forgets its wrong knocks, and lifts its latch.", """
                door(0, 0, false, 0, 1) = 0
                key(0, 0) = 0
                3 * knock(0, 1, true, 1) = 0
                doorOf(0, {5, 6, 7, 10}) = 3, 1, 0, 3
                free(0, 0) = 0
                doorOf(0, {5, 6, 7, 10}) = 0, 0, 0, 3
                2 * knock(0, 1, true, 1) = 0
                doorOf(0, {5, 6}) = 2, 0
                knock(0, 1, true, 1) = 0
                doorOf(0, {5, 6}) = 3, 1
                account({4, 8, 9}) = 1, 2, 1
                """);
    }

    private static void refusals() {
        // A key that is there already, when all are, is refused for 2, which its method names before 1.
        Runs.holds(TERMS, "Something is refused for the first of these reasons that its method names, in the order in"
                + " which it names them", """
                door(0, 0, false, 0, 1) = 0
                key(0, {0, 1, 2}) = 0, 1, 2
                key(1, {0, 1}) = 3, 4
                key(0, 0) ! UnsupportedOperationException 2 0
                key(1, 1) ! UnsupportedOperationException 2 4
                key(1, 2) ! UnsupportedOperationException 1 5
                // The latch of the door is not down, and the key 4 fits in nothing: 6 comes before 7.
                free(4, 0) ! UnsupportedOperationException 6 0
                """);
        Runs.holds(TERMS, "Something is refused for the first of these reasons that its method names, in the order in"
                + " which it names them, with a detail: 1, there are as many as there can be: this number", """
                7 * door(0, 0, false, 0, 1) = 0..6
                door(0, 0, false, 0, 1) = 7
                door(0, 0, false, 0, 1) ! UnsupportedOperationException 1 8
                5 * threshold(0) = 0..4
                threshold(0) = 5
                threshold(0) ! UnsupportedOperationException 1 6
                key({0, 1}, {0, 1}) = 0..3
                key(2, 2) = 4
                key(2, 0) ! UnsupportedOperationException 1 5
                """);
        Runs.holds(TERMS, "2, it is so already: for a case, an ending or a threshold the number that was told, for a key"
                + " the one that has the same", """
                threshold({0, 3}) = 0, 1
                govern(0, 0) ! UnsupportedOperationException 2 0
                govern(1, 3) ! UnsupportedOperationException 2 3
                tellEnding(0, 0, false, 0) ! UnsupportedOperationException 2 0
                tellEnding(0, 0, false, 25) = 0
                tellEnding(0, 0, false, 25) ! UnsupportedOperationException 2 25
                door(0, 0, false, 0, 1) = 0
                set(0, -1) ! UnsupportedOperationException 2 -1
                set(0, 0) = 0
                set(0, 0) ! UnsupportedOperationException 2 0
                4 * threshold(0) = 2..5
                set(0, 5) = 0
                set(0, 5) ! UnsupportedOperationException 2 5
                key(2, 1) = 0
                key(2, 1) ! UnsupportedOperationException 2 0
                key(1, 2) = 1
                key(1, 2) ! UnsupportedOperationException 2 1
                """);
    }

    private static void refusalsOfKnocks() {
        String latchedButOne = "8 * door(0, 0, false, 0, 1) = 0..7\n" + "knock({0..6}, 1, true, 1) = 0\n".repeat(3);
        Runs.holds(TERMS, "3, the latch is down: how many latches are down", """
                door(0, 0, false, 0, 1) = 0
                3 * knock(0, 1, true, 1) = 0
                knock(0, 0, false, 0) ! UnsupportedOperationException 3 1
                """);
        Runs.holds(TERMS, "3, the latch is down: how many latches are down", latchedButOne + """
                knock(0, 0, false, 0) ! UnsupportedOperationException 3 7
                3 * knock(7, 1, true, 1) = 0
                knock(7, 0, false, 0) ! UnsupportedOperationException 3 8
                """);
        Runs.holds(TERMS, "4, the door is open: how many doors are", """
                8 * door(0, 0, false, 0, 1) = 0..7
                knock(5, 0, false, 0) = 3
                knock(5, 0, false, 0) ! UnsupportedOperationException 4 1
                knock({0..4}, 0, false, 0) = 3
                knock({6, 7}, 0, false, 0) = 3
                knock(5, 0, false, 0) ! UnsupportedOperationException 4 8
                """);
        Runs.holds(TERMS, "5, it is not open: likewise", """
                8 * door(0, 0, false, 0, 1) = 0..7
                shut(0) ! UnsupportedOperationException 5 0
                knock({1..7}, 0, false, 0) = 3
                shut(0) ! UnsupportedOperationException 5 7
                """);
        Runs.holds(TERMS, "6, the latch is not down: the wrong knocks of the door", """
                door(0, 0, false, 0, {1, 2}) = 0, 1
                key(0, 0) = 0
                knock(1, 1, true, 1) = 0
                free(0, 0) ! UnsupportedOperationException 6 0
                knock(0, 1, true, 1) = 0
                free(0, 0) ! UnsupportedOperationException 6 1
                knock(0, 1, true, 1) = 0
                free(0, 0) ! UnsupportedOperationException 6 2
                knock(0, 1, true, 1) = 0
                free(0, 0) = 0
                free(0, 0) ! UnsupportedOperationException 6 0
                """);
        Runs.holds(TERMS, "7, the key does not fit: in how many of both it agrees", """
                door(1, 1, false, 0, 1) = 0
                3 * knock(0, 0, true, 1) = 0
                key({0, 1}, {0, 1}) = 0..3
                free(0, 0) ! UnsupportedOperationException 7 0
                free(1, 0) ! UnsupportedOperationException 7 1
                free(2, 0) ! UnsupportedOperationException 7 1
                free(3, 0) = 0
                """);
    }

    private static void changes() {
        // Behind each of these rows it is looked whether there is one change more, and whether undo takes it back.
        Runs.holds(TERMS, "The changes are the successful calls of door, threshold, govern, set, tellEnding, key, knock,"
                + " shut, free and read since the last call of clear, or since the object was created.", """
                account(12) = 0
                door(0, 0, false, 0, 1) = 0
                account(12) = 1
                threshold(1) = 0
                account(12) = 2
                govern(0, 0) = 1
                account(12) = 3
                set(0, 0) = 0
                account(12) = 4
                tellEnding(0, 0, false, 7) = 0
                account(12) = 5
                key(0, 0) = 0
                account(12) = 6
                knock(0, 0, false, 0) = 3
                account(12) = 7
                shut(0) = 0
                account(12) = 8
                clear() = 1
                account(12) = 0
                undo() ! IllegalStateException
                read "door0os12;knock0:isO;knock0:isO;knock0:isO;key0o" = 5
                account(12) = 1
                free(0, 0) = 0
                account(12) = 2
                append "shut0" = 5
                line(0) = "osa1-2"
                endings(0) = "aiue/eoai"
                snapshot() = 1
                shut(0) ! UnsupportedOperationException 5 0
                read "" ! UnsupportedOperationException order 0 refusal 5 0
                read "" ! IllegalArgumentException at 0
                account(12) = 2
                """);
        Runs.holds(TERMS, "Whenever a change is made, it can be undone, and of those that could be undone before it, only"
                + " the latest 7 still can, so that there are at most 8.", """
                tellEnding(0, 0, false, {1..7}) = 0..6
                account(12) = 7
                tellEnding(0, 0, false, 8) = 7
                account(12) = 8
                tellEnding(0, 0, false, 9) = 8
                account(12) = 8
                undo() = 7
                ending(0, 0, false) = 'i'
                tellEnding(0, 0, false, 19) = 8
                account(12) = 8
                undo() = 7
                undo() = 6
                undo() = 5
                undo() = 4
                undo() = 3
                undo() = 2
                undo() = 1
                undo() = 0
                ending(0, 0, false) = 'b'
                undo() ! IllegalStateException
                """);
    }

    private static void details() {
        Runs.holds(TERMS, "A knock at a door whose case is governed otherwise later stays as it was.", """
                door(0, 0, false, 0, {1, 2}) = 0, 1
                threshold(0) = 0
                set({0, 1}, 0) = 0
                knock(0, 0, false, 0) = 3
                knock(1, 0, false, 1) = 2
                govern(0, 1) = 0
                doorOf({0, 1}, 7) = 1, 0
                doorOf({0, 1}, 5) = 0, 1
                account({5, 6, 7}) = 2, 1, 1
                set({0, 1}, -1) = 0
                tellEnding(0, 0, false, 25) = 0
                doorOf({0, 1}, 7) = 1, 0
                doorOf({0, 1}, 5) = 0, 1
                account({5, 6, 7}) = 2, 1, 1
                """);
        Runs.holds(TERMS, "Doors that are shut keep no wrong knocks, since none is heard while they are open.", """
                door(0, 0, false, 0, 1) = 0
                2 * knock(0, 1, false, 0) = 2
                knock(0, 0, false, 0) = 3
                knock(0, 1, false, 0) ! UnsupportedOperationException 4 1
                doorOf(0, {5, 10}) = 0, 3
                shut(0) = 0
                doorOf(0, {5, 10}) = 0, 3
                line(0) = "osa0-1"
                """);
        Runs.holds(TERMS, "Latches fall for one door alone, whose wrong knocks stay 3 until it is freed.", """
                8 * door(0, 0, false, 0, 1) = 0..7
                key(0, 0) = 0
                knock({0..7}, 1, false, 0) = 2
                knock({0..7}, 1, false, 0) = 2
                knock(4, 1, false, 0) = 2
                doorOf({0..7}, 6) = 0, 0, 0, 0, 1, 0, 0, 0
                doorOf({0..7}, 5) = 2, 2, 2, 2, 3, 2, 2, 2
                knock(4, 1, false, 0) ! UnsupportedOperationException 3 1
                doorOf(4, 5) = 3
                free(0, 4) = 0
                doorOf({0..7}, 5) = 2, 2, 2, 2, 0, 2, 2, 2
                """);
        Runs.holds(TERMS, "A knock that is refused is none.", """
                door(0, 0, false, 0, {1, 2}) = 0, 1
                knock(0, 0, false, 0) = 3
                3 * knock(1, 1, false, 0) = 2
                knock(0, 0, false, 0) ! UnsupportedOperationException 4 1
                knock(0, 1, true, 3) ! UnsupportedOperationException 4 1
                knock(1, 0, false, 0) ! UnsupportedOperationException 3 1
                knock(1, 1, true, 3) ! UnsupportedOperationException 3 1
                account({5, 6, 7, 8}) = 4, 1, 3, 1
                doorOf({0, 1}, 10) = 1, 3
                meanKnocks() = 2.0
                agreedShare() = 0.25
                ranked(0, {0, 1}) = 1, 0
                """);
        Runs.holds(TERMS, "A door whose latch is down can be the best one to open.", """
                door(0, 0, false, 0, 1) = 0
                3 * knock(0, 1, false, 0) = 2
                best({0, 1}) = 0
                """);
        Runs.holds(TERMS, "Rooms are written in the order in which they were told.", """
                door(0, 0, false, 0, 5) = 0
                door(0, 0, false, 5, 0) = 1
                line(0) = "osa0-5"
                line(1) = "osa5-0"
                """);
    }

    private static void exceptions() {
        // Behind each row that throws, the object is looked at with all that can be undone or restored.
        Runs.holds(TERMS, "A call that throws an exception leaves the state unchanged, unless its description says"
                + " otherwise.", """
                door(1, 1, true, 2, 3) = 0
                key(0, 1) = 0
                threshold(2) = 0
                set(0, 0) = 2
                3 * knock(0, 0, false, 1) = 0
                snapshot() = 1
                line(0) = "ide2-3@0!3"
                append "end0" = 4
                door(9, 9, false, 9, 9) ! IllegalArgumentException
                door(0, 0, false, 9, 8) ! IndexOutOfBoundsException
                threshold(9) ! IllegalArgumentException
                govern(9, 9) ! IndexOutOfBoundsException
                govern(0, 9) ! IllegalArgumentException
                govern(0, 2) ! UnsupportedOperationException 2 2
                set(0, 9) ! IndexOutOfBoundsException
                set(0, 0) ! UnsupportedOperationException 2 0
                tellEnding(0, 0, false, 99) ! IllegalArgumentException
                tellEnding(0, 0, false, 0) ! UnsupportedOperationException 2 0
                key(9, 9) ! IllegalArgumentException
                key(0, 1) ! UnsupportedOperationException 2 0
                doorOf(9, 0) ! IndexOutOfBoundsException
                doorOf(0, 99) ! IllegalArgumentException
                thresholdOf(9, 0) ! IndexOutOfBoundsException
                thresholdOf(0, 9) ! IllegalArgumentException
                ending(9, 9, false) ! IllegalArgumentException
                areAlike(0, 9, false) ! IndexOutOfBoundsException
                couldBe(9) ! IndexOutOfBoundsException
                twins(9) ! IndexOutOfBoundsException
                syncretic(9) ! IllegalArgumentException
                often('A') ! IllegalArgumentException
                knock(9, 0, false, 0) ! IndexOutOfBoundsException
                knock(0, 9, false, 0) ! IllegalArgumentException
                knock(0, 1, true, 2) ! UnsupportedOperationException 3 1
                shut(9) ! IndexOutOfBoundsException
                shut(0) ! UnsupportedOperationException 5 0
                free(9, 0) ! IndexOutOfBoundsException
                free(0, 0) ! UnsupportedOperationException 7 1
                agrees(9, 0, false, 0) ! IndexOutOfBoundsException
                agrees(0, 9, false, 0) ! IllegalArgumentException
                keysFor(9) ! IndexOutOfBoundsException
                way(9, 0, false) ! IndexOutOfBoundsException
                way(2, 3, false) ! NoSuchElementException
                reached(9) ! IndexOutOfBoundsException
                best(9) ! IndexOutOfBoundsException
                best(0) ! NoSuchElementException
                ranked(9, 0) ! IllegalArgumentException
                ranked(0, 9) ! NoSuchElementException
                line(9) ! IndexOutOfBoundsException
                endings(9) ! IllegalArgumentException
                character(99) ! IndexOutOfBoundsException
                account(99) ! IllegalArgumentException
                agreedShare() = 0.0
                append(0x1f) ! IllegalArgumentException
                errorPosition() ! NoSuchElementException
                refusedItem() ! NoSuchElementException
                """);
        Runs.holds(TERMS, "A call that throws an exception leaves the state unchanged, unless its description says"
                + " otherwise.", """
                meanKnocks() ! ArithmeticException
                agreedShare() ! ArithmeticException
                refusal({false, true}) ! IllegalStateException
                undo() ! IllegalStateException
                restore() ! IllegalStateException
                """);
        Runs.holds(TERMS, "If a method can throw several exceptions, they are checked in the order in which they are"
                + " listed.", """
                8 * door(0, 0, false, 0, 1) = 0..7
                door(3, 0, false, 6, 1) ! IllegalArgumentException
                door(0, 0, false, 6, 1) ! IndexOutOfBoundsException
                door(0, 0, false, 0, 1) ! UnsupportedOperationException 1 8
                6 * threshold(0) = 0..5
                threshold(4) ! IllegalArgumentException
                govern(6, 4) ! IndexOutOfBoundsException
                govern(5, 4) ! IllegalArgumentException
                doorOf(8, 11) ! IndexOutOfBoundsException
                thresholdOf(6, 2) ! IndexOutOfBoundsException
                knock(0, 0, false, 0) = 3
                knock(8, 3, false, 4) ! IndexOutOfBoundsException
                knock(0, 3, false, 4) ! IllegalArgumentException
                knock(0, 0, false, 0) ! UnsupportedOperationException 4 1
                agrees(8, 3, false, 4) ! IndexOutOfBoundsException
                ranked(2, 8) ! IllegalArgumentException
                append "xxxxxxxxxxxxxxxxxxxxxxxxxxxxxxxxxxxxxxxxxxxxxxxxxxxxxxxxxxxx" = 60
                append(0x2000007f) ! IllegalArgumentException
                append(0x20000000) ! IllegalStateException
                """);
    }

    private static void whatIsNotUndone() {
        Runs.holds(TERMS, "The input buffer, the error position, the refused item, the refusal and the line are neither"
                + " undone nor saved.", """
                door(0, 0, false, 0, 1) = 0
                append "si" = 2
                snapshot() = 1
                read "x" ! IllegalArgumentException at 2
                read "sillO;shut0" ! UnsupportedOperationException order 1 refusal 5 0
                set(0, -1) ! UnsupportedOperationException 2 -1
                threshold(0) = 0
                line(0) = "osa0-1"
                append "shut" = 4
                undo() = 1
                account(11) = 4
                errorPosition() = 2
                refusedItem() = 1
                refusal({false, true}) = 2, -1
                character({0..5}) = 'o', 's', 'a', '0', '-', '1'
                restore() = 1
                account(11) = 4
                errorPosition() = 2
                refusedItem() = 1
                refusal({false, true}) = 2, -1
                character({0..5}) = 'o', 's', 'a', '0', '-', '1'
                read "0" ! UnsupportedOperationException order 0 refusal 5 0
                """);
    }
}
