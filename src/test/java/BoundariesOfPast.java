/** The sentences of the promises 38 to 40: undo and snapshot. */
final class BoundariesOfPast {
    private BoundariesOfPast() {
    }

    static void hold() {
        undo();
        undoGoesRound();
        snapshot();
        restore();
    }

    private static void undo() {
        // One of each kind, the three first of which are forgotten.
        Runs.holds("Promise 38", "Undoes the last change that can be undone.", """
                door(1, 2, true, 4, 3) = 0
                key(1, 2) = 0
                threshold(1) = 0
                set(0, 0) = 1
                govern(0, 3) = 1
                tellEnding(1, 3, true, 25) = 14
                knock(0, 2, true, 3) = 3
                shut(0) = 0
                read "knock0:osO;knock0:osO;knock0:osO" = 3
                free(0, 0) = 0
                knock(0, 0, false, 0) = 0
                line(0) = "gdz4-3@0!1"
                undo() = 7
                line(0) = "gdz4-3@0"
                account({8, 9}) = 1
                undo() = 6
                line(0) = "gdz4-3@0!3"
                account({4, 7, 8, 9}) = 1, 3, 1, 0
                undo() = 5
                line(0) = "gdz4-3@0"
                account({4, 5, 7, 8}) = 0, 1, 0, 0
                undo() = 4
                line(0) = "gdz4-3@0+"
                undo() = 3
                line(0) = "gdz4-3@0"
                account({5, 6}) = 0
                undo() = 2
                line(0) = "gdo4-3@0"
                undo() = 1
                line(0) = "gdu4-3@0"
                thresholdOf(0, 0) = 1
                undo() = 0
                line(0) = "gdi4-3"
                account({0, 1, 2}) = 1
                undo() ! IllegalStateException
                """);
        Runs.holds("Promise 38", "Undoes the last change that can be undone.", """
                threshold(1) = 0
                undo() = 0
                account(1) = 0
                key(2, 2) = 0
                undo() = 0
                account(2) = 0
                door(0, 0, false, 0, 1) = 0
                undo() = 0
                account(0) = 0
                // A refused call and one that only asks are no changes.
                threshold(1) = 0
                govern(0, 1) ! UnsupportedOperationException 2 1
                snapshot() = 0
                endings(0) = "aiue/eoai"
                append "x" = 1
                undo() = 0
                account(1) = 0
                account(11) = 1
                """);
        Runs.holds("Promise 38", "Returns the number of changes that can still be undone.", """
                tellEnding(0, 0, false, {1..7}) = 0..6
                undo() = 6
                tellEnding(0, 0, false, {8, 9}) = 6, 8
                undo() = 7
                tellEnding(0, 0, false, {10, 11}) = 8, 10
                undo() = 7
                undo() = 6
                undo() = 5
                undo() = 4
                undo() = 3
                undo() = 2
                undo() = 1
                undo() = 0
                """);
        Runs.holds("Promise 38", "Throws `IllegalStateException` if there is none", """
                undo() ! IllegalStateException
                threshold(0) = 0
                undo() = 0
                undo() ! IllegalStateException
                // Neither clear nor restore can be undone, nor what was changed before them.
                threshold(0) = 0
                snapshot() = 0
                threshold(1) = 1
                restore() = 0
                undo() ! IllegalStateException
                account(1) = 1
                threshold(2) = 1
                clear() = 0
                undo() ! IllegalStateException
                account(1) = 0
                """);
    }

    private static void undoGoesRound() {
        // 7, 8 and 9 changes: what was before the ninth latest one doesn't come back.
        for (int changes : new int[] {7, 8, 9, 10, 17, 18}) {
            StringBuilder rows = new StringBuilder();
            rows.append("tellEnding(0, 0, false, {1..").append(changes).append("}) = 0..").append(changes - 1).append('\n');
            int most = Math.min(8, changes);
            rows.append("account(12) = ").append(most).append('\n');
            for (int left = most - 1; left >= 0; left--) {
                rows.append("undo() = ").append(left).append('\n');
                rows.append("ending(0, 0, false) = '").append((char) ('a' + changes - most + left)).append("'\n");
            }
            rows.append("undo() ! IllegalStateException\n");
            Runs.holds("Promise 38", "Undoes the last change that can be undone.", rows.toString());
        }
        // Undone and changed by turns, so that the oldest ones are forgotten at another place.
        Runs.holds("Promise 38", "Undoes the last change that can be undone.", """
                tellEnding(0, 0, false, {1..11}) = 0..10
                undo() = 7
                undo() = 6
                undo() = 5
                tellEnding(0, 0, false, {20..25}) = 8, 20..24
                account(12) = 8
                undo() = 7
                undo() = 6
                undo() = 5
                undo() = 4
                undo() = 3
                ending(0, 0, false) = 'u'
                undo() = 2
                ending(0, 0, false) = 'i'
                undo() = 1
                ending(0, 0, false) = 'h'
                undo() = 0
                ending(0, 0, false) = 'g'
                undo() ! IllegalStateException
                """);
    }

    private static void snapshot() {
        Runs.holds("Promise 39", "Takes a snapshot of everything that changes can change.", """
                door(1, 2, true, 4, 3) = 0
                door(0, 0, false, 0, 1) = 1
                threshold({3, 1}) = 0, 1
                set(0, 0) = 3
                key({1, 2}, 2) = 0, 1
                tellEnding(1, 3, true, 25) = 14
                knock(0, 2, true, 3) = 3
                3 * knock(1, 1, true, 1) = 0
                snapshot() = 2
                clear() = 2
                restore() = 2
                line(0) = "gdz4-3@0+"
                line(1) = "osa0-1!3"
                account({0..10}) = 2, 2, 2, 1, 1, 4, 1, 3, 1, 0, 6
                thresholdOf({0, 1}, 0) = 3, 1
                keysFor({0, 1}) = 1, 0
                doorOf({0, 1}, 6) = 0, 1
                doorOf({0, 1}, 10) = 1, 3
                key(2, 2) ! UnsupportedOperationException 2 1
                """);
        // Behind these rows it is looked whether the snapshot leaves the changes that can be undone.
        Runs.holds("Promise 39", "Takes a snapshot of everything that changes can change.", """
                tellEnding(0, 0, false, {1..9}) = 0..8
                snapshot() = 0
                account(12) = 8
                undo() = 7
                ending(0, 0, false) = 'i'
                tellEnding(0, 0, false, 25) = 8
                restore() = 0
                ending(0, 0, false) = 'j'
                """);
        Runs.holds("Promise 39", "It replaces an earlier one.", """
                snapshot() = 0
                door(0, 0, false, 0, 1) = 0
                snapshot() = 1
                door(0, 0, false, 0, 1) = 1
                restore() = 1
                account(0) = 1
                clear() = 1
                snapshot() = 0
                door(0, 0, false, 0, 1) = 0
                restore() = 0
                account(0) = 0
                """);
        Runs.holds("Promise 39", "Returns how many doors there are.", """
                snapshot() = 0
                door(0, 0, false, 0, 1) = 0
                snapshot() = 1
                7 * door(0, 0, false, 0, 1) = 1..7
                snapshot() = 8
                undo() = 7
                snapshot() = 7
                """);
    }

    private static void restore() {
        Runs.holds("Promise 40", "Restores all that from the snapshot, which stays available.", """
                door(0, 0, false, 0, 1) = 0
                knock(0, 1, false, 0) = 2
                snapshot() = 1
                2 * knock(0, 1, false, 0) = 2
                tellEnding(0, 0, false, 25) = 0
                threshold(0) = 0
                restore() = 1
                line(0) = "osa0-1!1"
                account({1, 4, 5, 8}) = 0, 0, 1, 0
                // What is changed after it doesn't change the snapshot.
                knock(0, 0, false, 0) = 3
                key(0, 0) = 0
                restore() = 1
                line(0) = "osa0-1!1"
                account({2, 5}) = 0, 1
                clear() = 1
                restore() = 1
                restore() = 1
                line(0) = "osa0-1!1"
                """);
        // Doors, thresholds and keys beyond those of the snapshot are gone, and come as new ones.
        Runs.holds("Promise 40", "Restores all that from the snapshot", """
                snapshot() = 0
                8 * door(2, 2, true, 4, 5) = 0..7
                6 * threshold(3) = 0..5
                key({1, 2}, {1, 2}) = 0..3
                key(0, 0) = 4
                set({0..7}, 5) = 3
                3 * knock({0, 7}, 0, false, 0) = 0
                knock(1, 2, true, 3) = 3
                restore() = 0
                account({0..10}) = 0, 0, 0, 0, 0, 0, 0, 0, 0, 0, 5
                set(0, -1) ! IndexOutOfBoundsException
                8 * door(0, 0, false, 0, 1) = 0..7
                doorOf({0, 1, 7}, {3, 5, 6, 7, 10}) = -1, 0, 0, 0, 0, -1, 0, 0, 0, 0, -1, 0, 0, 0, 0
                6 * threshold(0) = 0..5
                thresholdOf(5, {0, 1}) = 0
                keysFor({0..7}) = 0
                """);
        // Others that came in their places meanwhile leave nothing of theirs.
        Runs.holds("Promise 40", "Restores all that from the snapshot", """
                door(0, 1, false, 2, 3) = 0
                door(2, 0, true, 5, 4) = 1
                key(0, 1) = 0
                key(2, 0) = 1
                threshold({3, 1}) = 0, 1
                set(1, 0) = 3
                snapshot() = 2
                clear() = 2
                8 * door(1, 2, true, 0, 1) = 0..7
                key(1, {0, 1, 2}) = 0, 1, 2
                threshold({0, 2, 1}) = 0, 1, 2
                set({0, 1}, 2) = 1
                knock({0, 1}, 2, true, 1) = 3
                tellEnding({0, 2}, {0, 3}, {false, true}, 25) = 0, 4, 4, 8, 8, 14, 14, 20
                restore() = 2
                doorOf(0, {0..10}) = 0, 1, 0, -1, 0, 0, 0, 0, 2, 3, 0
                doorOf(1, {0..10}) = 2, 0, 1, 0, 3, 0, 0, 0, 5, 4, 0
                doorOf(2, 0) ! IndexOutOfBoundsException
                keysFor({0, 1}) = 1, 2
                key(0, 1) ! UnsupportedOperationException 2 0
                key(2, 0) ! UnsupportedOperationException 2 1
                key(1, 0) = 2
                thresholdOf({0, 1}, 0) = 3, 1
                thresholdOf(2, 0) ! IndexOutOfBoundsException
                line(0) = "isa2-3"
                line(1) = "odu5-4@0"
                """);
        // A full house in place of another full one, to the last door, threshold and key.
        Runs.holds("Promise 40", "Restores all that from the snapshot", """
                7 * door(0, 0, false, 0, 1) = 0..6
                door(2, 1, true, 5, 4) = 7
                5 * threshold(0) = 0..4
                threshold(3) = 5
                key(0, {0, 1, 2}) = 0, 1, 2
                key(1, 0) = 3
                key(2, 1) = 4
                set(7, 5) = 3
                3 * knock(7, 0, false, 0) = 0
                snapshot() = 8
                clear() = 8
                8 * door(1, 2, false, 2, 3) = 0..7
                6 * threshold(1) = 0..5
                key(1, {0, 1, 2}) = 0, 1, 2
                key(2, 2) = 3
                key(0, 2) = 4
                knock(7, 2, false, 0) = 3
                restore() = 8
                line(7) = "idu5-4@5!3"
                doorOf(7, {0..10}) = 2, 1, 1, 5, 3, 3, 1, 0, 5, 4, 3
                thresholdOf({0..5}, 0) = 0, 0, 0, 0, 0, 3
                thresholdOf({0..5}, 1) = 0, 0, 0, 0, 0, 1
                keysFor({0..7}) = 1, 1, 1, 1, 1, 1, 1, 16
                key(2, 1) ! UnsupportedOperationException 2 4
                key(2, 2) ! UnsupportedOperationException 1 5
                free(4, 7) = 0
                """);
        Runs.holds("Promise 40", "After that no changes can be undone.", """
                tellEnding(0, 0, false, {1..8}) = 0..7
                snapshot() = 0
                account(12) = 8
                restore() = 0
                account(12) = 0
                undo() ! IllegalStateException
                tellEnding(0, 0, false, {9, 10}) = 8, 9
                account(12) = 2
                undo() = 1
                undo() = 0
                ending(0, 0, false) = 'i'
                undo() ! IllegalStateException
                tellEnding(0, 0, false, {11..19}) = 8, 11..18
                account(12) = 8
                """);
        Runs.holds("Promise 40", "Returns how many doors there are then.", """
                8 * door(0, 0, false, 0, 1) = 0..7
                snapshot() = 8
                clear() = 8
                restore() = 8
                undo() ! IllegalStateException
                clear() = 8
                snapshot() = 0
                door(0, 0, false, 0, 1) = 0
                restore() = 0
                """);
        Runs.holds("Promise 40", "Throws `IllegalStateException` if there is no snapshot", """
                restore() ! IllegalStateException
                door(0, 0, false, 0, 1) = 0
                restore() ! IllegalStateException
                clear() = 1
                restore() ! IllegalStateException
                snapshot() = 0
                restore() = 0
                """);
    }
}
