import java.util.ArrayList;
import java.util.List;
import java.util.Set;
import java.util.TreeSet;

/** The sentences of the promises 34 to 37, and those of the Terms on the input. */
final class BoundariesOfInput {
    private static final String TERMS = "Terms";
    private static final String DIGITS = "0123456789";
    private static final String GENDERS = "oig";
    private static final String NUMBERS = "sd";
    private static final String CASES = "OSAL";

    // For each order the characters that can stand at each of its places.
    private static final List<List<String>> ORDERS = List.of(
            places("door", DIGITS, GENDERS, NUMBERS, DIGITS, DIGITS),
            places("sill", CASES),
            places("govern", DIGITS, CASES),
            places("set", DIGITS, "@", DIGITS + "-"),
            places("end", DIGITS, CASES, NUMBERS, "=", "abcdefghijklmnopqrstuvwxyz"),
            places("key", DIGITS, GENDERS),
            places("knock", DIGITS, ":", GENDERS, NUMBERS, CASES),
            places("shut", DIGITS),
            places("free", DIGITS, ">", DIGITS));

    private BoundariesOfInput() {
    }

    static void hold() {
        buffer();
        orders();
        ordersOfKnocks();
        digits();
        errors();
        everyCharacterAtEveryPlace();
        append();
        appendThrows();
        read();
        readThrows();
        readRefused();
        errorPosition();
        refusedItem();
    }

    private static List<String> places(String word, String... rest) {
        List<String> places = new ArrayList<>();
        for (char letter : word.toCharArray()) {
            places.add(String.valueOf(letter));
        }
        places.addAll(List.of(rest));
        return places;
    }

    private static void buffer() {
        Runs.holds(TERMS, "The input buffer holds up to 60 characters with codes from 32 to 126.", """
                append(0x207e207e) = 4
                append(0x1f000000) ! IllegalArgumentException
                append(0x0000007f) ! IllegalArgumentException
                append "56789012345678901234567890123456789012345678901234567890" = 60
                append(0x20) ! IllegalStateException
                append(0) = 60
                read "" ! IllegalArgumentException at 0
                account(11) = 0
                """);
        // An input that fills the buffer is carried out as any other one.
        Runs.holds(TERMS, "The input buffer holds up to 60 characters with codes from 32 to 126.", """
                append "door0os12;knock0:osO;shut0;knock0:osO;shut0;knock0:osO;sillO" = 60
                append(0x3b) ! IllegalStateException
                read "" = 7
                account({0, 1, 3, 5}) = 1, 1, 1, 3
                """);
    }

    private static void orders() {
        Runs.holds(TERMS, "An order text has one or more orders with \";\" between them: \"door\", a declension, the letters"
                + " of a gender and of a number, and two rooms", """
                read "door0os05" = 1
                doorOf(0, {0, 1, 2, 8, 9}) = 0, 0, 0, 0, 5
                read "door2gd50" = 1
                doorOf(1, {0, 1, 2, 8, 9}) = 2, 2, 1, 5, 0
                read "door1gs34;door0id12;door2os21" = 3
                doorOf(2, {0, 1, 2, 8, 9}) = 1, 2, 0, 3, 4
                doorOf(3, {0, 1, 2, 8, 9}) = 0, 1, 1, 1, 2
                doorOf(4, {0, 1, 2, 8, 9}) = 2, 0, 0, 2, 1
                // None, one without an end, one before the first and one behind the last.
                read "" ! IllegalArgumentException at 0
                read ";" ";door0os12" ! IllegalArgumentException at 0
                read "door0os12;" "door0os12;;door0os12" ! IllegalArgumentException at 10
                read "door0os12,door0os12" "door0os12:" "door0os12<" "door0os12door0os12" ! IllegalArgumentException at 9
                """);
        // The most orders that there is room for: of five characters each, with nine parting them.
        Runs.holds(TERMS, "An order text has one or more orders with \";\" between them", """
                door(0, 0, false, 0, 1) = 0
                read "key0o;key0i;key0g;key1o;key1i;sillO;sillO;sillO;sillO;sillO" = 10
                account({1, 2, 12}) = 5, 5, 2
                """);
        Runs.holds(TERMS, "\"sill\" and the letter of a case lets a threshold come", """
                read "sillO" "sillS" "sillA" "sillL" = 1
                account(1) = 4
                thresholdOf({0..3}, 0) = 0..3
                door(0, 0, false, 0, 1) = 0
                read "set0@3;set0@-;sillA" = 3
                thresholdOf(4, 0) = 2
                read "sill" "sillo" "sills" "sill0" "sillX" ! IllegalArgumentException at 4
                """);
        Runs.holds(TERMS, "\"govern\", a threshold and the letter of a case", """
                6 * threshold(1) = 0..5
                read "govern0O" "govern5L" = 1
                thresholdOf({0..5}, 0) = 0, 1, 1, 1, 1, 3
                read "govern0S;govern5A" = 2
                thresholdOf({0..5}, 0) = 1, 1, 1, 1, 1, 2
                read "govern6O" "govern9O" ! UnsupportedOperationException order 0
                read "govern0S" ! UnsupportedOperationException order 0 refusal 2 1
                """);
        Runs.holds(TERMS, "\"set\", a door, \"@\", and a threshold or \"-\" for none", """
                8 * door(0, 0, false, 0, 1) = 0..7
                6 * threshold(1) = 0..5
                read "set0@0" "set7@5" "set1@4;set1@-" = 1, 1, 2
                doorOf({0..7}, 3) = 0, -1, -1, -1, -1, -1, -1, 5
                read "set0@-;shut9" ! UnsupportedOperationException order 1
                read "set0@-;end0Os=z" = 2
                doorOf(0, 3) = -1
                read "set0@-" ! UnsupportedOperationException order 0 refusal 2 -1
                read "set8@0" "set0@6" "set9@9" "set8@-" ! UnsupportedOperationException order 0
                read "set-@0" ! IllegalArgumentException at 3
                read "set0@-1" "set0@--" ! IllegalArgumentException at 6
                """);
        Runs.holds(TERMS, "\"end\", a declension, the letter of a case, the letter of a number, \"=\" and an ending", """
                read "end0Os=z" "end2Ld=z" "end1Sd=b" "end0Ad=y" = 1
                endings(0) = "ziue/eoyi"
                endings(1) = "eoai/ibeo"
                endings(2) = "iueo/oaiz"
                read "end0Os=a" "end2Ld=a" = 1
                endings(0) = "aiue/eoyi"
                endings(2) = "iueo/oaia"
                read "end3Os=a" ! UnsupportedOperationException order 0
                read "end0Os=a" ! UnsupportedOperationException order 0 refusal 2 0
                read "end0Ss=i" ! UnsupportedOperationException order 0 refusal 2 8
                read "end1Ls=i" ! UnsupportedOperationException order 0 refusal 2 8
                read "end2Od=o" ! UnsupportedOperationException order 0 refusal 2 14
                read "end0Os=A" "end0Os=`" "end0Os={" "end0Os=1" ! IllegalArgumentException at 7
                """);
        Runs.holds(TERMS, "\"key\", a declension and the letter of a gender", """
                door({0, 1, 2}, {0, 1}, false, 0, 1) = 0..5
                door({0, 2}, 2, false, 0, 1) = 6, 7
                read "key0o" "key2g" "key1i" "key0g" "key2o" = 1
                keysFor({0..7}) = 1, 0, 0, 4, 16, 0, 8, 2
                read "key3o" "key9g" ! UnsupportedOperationException order 0
                read "key2g" ! UnsupportedOperationException order 0 refusal 2 1
                read "key0g" ! UnsupportedOperationException order 0 refusal 2 3
                read "key0s" "key0O" "key0G" "key00" ! IllegalArgumentException at 4
                """);
    }

    private static void ordersOfKnocks() {
        Runs.holds(TERMS, "\"knock\", a door, \":\" and the letters of a gender, of a number and of a case", """
                7 * door(0, 0, false, 0, 1) = 0..6
                door(0, 2, true, 0, 1) = 7
                threshold(3) = 0
                set(7, 0) = 3
                read "knock0:osO" "knock7:gdL" = 1
                doorOf({0..7}, 7) = 1, 0, 0, 0, 0, 0, 0, 1
                read "knock1:isO" "knock2:odO" "knock3:osS" "knock4:gdA" = 1
                doorOf({0..7}, 5) = 0, 1, 1, 1, 1, 0, 0, 0
                read "knock8:osO" "knock9:osO" ! UnsupportedOperationException order 0
                read "knock0:osO" ! UnsupportedOperationException order 0 refusal 4 2
                """);
        Runs.holds(TERMS, "\"shut\" and a door", """
                8 * door(0, 0, false, 0, 1) = 0..7
                knock({0, 6, 7}, 0, false, 0) = 3
                read "shut0" "shut7" = 1
                doorOf({0..7}, 7) = 0, 0, 0, 0, 0, 0, 1, 0
                read "shut8" "shut9" ! UnsupportedOperationException order 0
                read "shut0" ! UnsupportedOperationException order 0 refusal 5 1
                """);
        Runs.holds(TERMS, "and \"free\", a key, \">\" and a door", """
                8 * door(2, 2, false, 0, 1) = 0..7
                3 * knock({1, 7}, 0, true, 1) = 0
                key({0, 1}, {0, 1}) = 0..3
                key(2, 2) = 4
                read "free5>7" "free4>8" "free9>9" ! UnsupportedOperationException order 0
                read "free0>7" "free3>1" "free1>1" ! UnsupportedOperationException order 0 refusal 7 0
                read "free0>0" ! UnsupportedOperationException order 0 refusal 6 0
                read "free4>7" = 1
                doorOf({0..7}, 6) = 0, 1, 0, 0, 0, 0, 0, 0
                read "free4>1" = 1
                account({4, 9}) = 0, 2
                """);
        Runs.holds(TERMS, "There are no blanks.", """
                door(0, 0, false, 0, 1) = 0
                knock(0, 0, false, 0) = 3
                read " shut0" " " ! IllegalArgumentException at 0
                read "s hut0" ! IllegalArgumentException at 1
                read "shut 0" ! IllegalArgumentException at 4
                read "shut0 " "shut0 ;sillO" ! IllegalArgumentException at 5
                read "shut0; sillO" ! IllegalArgumentException at 6
                account(3) = 1
                """);
    }

    private static void digits() {
        // Any digit is one: which numbers there are is looked at when the order is carried out.
        Runs.holds(TERMS, "Declensions, rooms, doors, thresholds and keys have one digit.", """
                read "door3os12" "door9os12" "door0os16" "door0os92" ! UnsupportedOperationException order 0
                read "govern9O" "set9@-" "end9Os=z" "key9o" "knock9:osO" "shut9" "free9>9" ! UnsupportedOperationException order 0
                read "door0os05" = 1
                read "set0@0" "set0@9" "free0>0" ! UnsupportedOperationException order 0
                """);
        Runs.holds(TERMS, "Declensions, rooms, doors, thresholds and keys have one digit.", """
                // None, two, and the characters beside the digits.
                read "dooros12" "door/os12" "door:os12" "door-1os12" ! IllegalArgumentException at 4
                read "door00os12" ! IllegalArgumentException at 5
                read "door0os/2" "door0os:2" "door0os" ! IllegalArgumentException at 7
                read "door0os1/" "door0os1:" "door0os1" ! IllegalArgumentException at 8
                read "door0os012" ! IllegalArgumentException at 9
                read "governO" "govern/O" "govern:O" ! IllegalArgumentException at 6
                read "govern00O" ! IllegalArgumentException at 7
                read "set@0" "set/@0" "set:@0" ! IllegalArgumentException at 3
                read "set00@0" ! IllegalArgumentException at 4
                read "set0@" "set0@/" "set0@:" ! IllegalArgumentException at 5
                read "set0@00" ! IllegalArgumentException at 6
                read "endOs=a" "end/Os=a" "end:Os=a" ! IllegalArgumentException at 3
                read "end00Os=a" ! IllegalArgumentException at 4
                read "keyo" "key/o" "key:o" ! IllegalArgumentException at 3
                read "key00o" ! IllegalArgumentException at 4
                """);
        Runs.holds(TERMS, "Declensions, rooms, doors, thresholds and keys have one digit.", """
                read "knock:osO" "knock/:osO" "knock::osO" ! IllegalArgumentException at 5
                read "knock00:osO" ! IllegalArgumentException at 6
                read "shut" "shut/" "shut:" ! IllegalArgumentException at 4
                read "shut00" ! IllegalArgumentException at 5
                read "free>0" "free/>0" "free:>0" ! IllegalArgumentException at 4
                read "free00>0" ! IllegalArgumentException at 5
                read "free0>" "free0>/" "free0>:" ! IllegalArgumentException at 6
                read "free0>00" ! IllegalArgumentException at 7
                """);
    }

    private static void errors() {
        Runs.holds(TERMS, "The error position of an input that is malformed is the lowest index of a character with which,"
                + " after the characters before it, no such input can go on, or the length of the input if there is no"
                + " such index", """
                read "" ! IllegalArgumentException at 0
                read "x" "xill" "?" ! IllegalArgumentException at 0
                read "sillO;x" "sillO;?illO" ! IllegalArgumentException at 6
                read "sillO;sillx" "sillO;sill" ! IllegalArgumentException at 10
                read "sillO;" ! IllegalArgumentException at 6
                read "d" "dxor" ! IllegalArgumentException at 1
                read "door0os1" "door0os1x" ! IllegalArgumentException at 8
                // A later fault doesn't count, nor does an order that would be refused before it.
                read "shut9;x;y" ! IllegalArgumentException at 6
                read "shut9;shut9;shu" ! IllegalArgumentException at 15
                """);
        // The buffer is full, but an input as such has no greatest length: behind ";" it could go on.
        Runs.holds(TERMS, "or the length of the input if there is no such index", """
                read "sillO;sillO;sillO;sillO;sillO;sillO;sillO;sillO;sillO;sillO;" ! IllegalArgumentException at 60
                read "sillO;sillO;sillO;sillO;sillO;sillO;sillO;sillO;sillO;shut0x" ! IllegalArgumentException at 59
                read "sillO;sillO;sillO;sillO;sillO;sillO;sillO;sillO;sillO;door0o" ! IllegalArgumentException at 60
                account(1) = 0
                """);
        Runs.holds(TERMS, "words are looked at letter by letter", """
                read "d" "dOor" ! IllegalArgumentException at 1
                read "do" "dor" "do0r" ! IllegalArgumentException at 2
                read "doo" "dooor" ! IllegalArgumentException at 3
                read "s" "sxt0" ! IllegalArgumentException at 1
                read "si" "siil" ! IllegalArgumentException at 2
                read "se" "seut" ! IllegalArgumentException at 2
                read "sh" "shll" "shet" ! IllegalArgumentException at 2
                read "k" "koy" "kill" ! IllegalArgumentException at 1
                read "ke" "kenock" ! IllegalArgumentException at 2
                read "kn" "kney" ! IllegalArgumentException at 2
                read "g" "guvern" ! IllegalArgumentException at 1
                read "e" "eed" ! IllegalArgumentException at 1
                read "f" "fend" ! IllegalArgumentException at 1
                """);
    }

    private static Set<Character> canFollow(String begun) {
        Set<Character> following = new TreeSet<>();
        for (List<String> order : ORDERS) {
            boolean fits = begun.length() < order.size();
            for (int i = 0; i < begun.length() && fits; i++) {
                fits = order.get(i).indexOf(begun.charAt(i)) >= 0;
            }
            for (int i = 0; fits && i < order.get(begun.length()).length(); i++) {
                following.add(order.get(begun.length()).charAt(i));
            }
        }
        if (following.isEmpty()) {
            following.add(';');
        }
        return following;
    }

    /** What is begun is cut off at every place, and followed there by every character of the buffer. */
    private static void everyCharacterAtEveryPlace() {
        Sentences.quote(TERMS, "The error position of an input that is malformed is the lowest index of a character");
        for (String whole : new String[] {"door0os12", "sillO", "govern0S", "set0@-", "set1@0", "end0Os=z", "key0i",
            "knock0:odL", "shut0", "free0>0"}) {
            for (int length = 0; length <= whole.length(); length++) {
                for (char next = 32; next <= 126; next++) {
                    String begun = whole.substring(0, length);
                    looksAt("", begun, next);
                    looksAt("sillA;", begun, next);
                }
            }
        }
    }

    private static void looksAt(String before, String begun, char next) {
        boolean goesOn = canFollow(begun).contains(next);
        String text = before + begun + next;
        boolean isWhole = goesOn && next != ';' && canFollow(begun + next).contains(';');
        Asked x = new Asked();
        x.appendAll(text);
        String answer = x.ask("read");
        if (isWhole) {
            Check.due("read of \"" + text + "\" is malformed", answer.equals("!IllegalArgumentException"), false);
        } else {
            Check.due("read of \"" + text + "\"", answer, "!IllegalArgumentException");
            Check.due("errorPosition of \"" + text + "\"", x.ask("errorPosition"),
                    String.valueOf(before.length() + begun.length() + (goesOn ? 1 : 0)));
        }
    }

    private static void append() {
        // Each of the four bytes alone, all of them, and those beside bytes that are skipped.
        Runs.holds("Promise 34", "Appends up to four characters to the input buffer: the bytes of an int from the most"
                + " significant one to the least significant one, where bytes that are 0 are skipped.", """
                append(0) = 0
                append(0x73000000) = 1
                append(0x00690000) = 2
                append(0x00006c00) = 3
                append(0x0000006c) = 4
                append(0x4f3b0073) = 7
                append(0x69006c6c) = 10
                append(0x00530000) = 11
                append(0) = 11
                read "" = 2
                thresholdOf({0, 1}, 0) = 0, 1
                append(0x73696c6c) = 4
                append(0x4c000000) = 5
                read "" = 1
                thresholdOf(2, 0) = 3
                """);
        // The highest bit of the first byte is no sign.
        Runs.holds("Promise 34", "the bytes of an int from the most significant one to the least significant one", """
                append(0x7e7e7e7e) = 4
                append(0x80202020) ! IllegalArgumentException
                append(0xff202020) ! IllegalArgumentException
                append({LEAST, MOST, -1}) ! IllegalArgumentException
                account(11) = 4
                """);
        Runs.holds("Promise 34", "the characters", """
                append(0x20202020) = 4
                append(0x7e7e7e7e) = 8
                append "door" = 12
                """);
        Runs.holds("Promise 34", "Returns the number of characters in the buffer.", """
                append(0) = 0
                append(0x20) = 1
                append(0x20007e00) = 3
                append(0x20207e00) = 6
                append(0x20202020) = 10
                """);
    }

    private static void appendThrows() {
        String words = "Throws `IllegalArgumentException` if a byte that is not 0 is not from 32 to 126";
        for (int shift = 0; shift < 32; shift += 8) {
            StringBuilder rows = new StringBuilder("append \"si\" = 2\n");
            for (int bad : new int[] {1, 31, 127, 128, 255}) {
                rows.append(String.format("append(0x%08x) ! IllegalArgumentException%n", bad << shift));
                rows.append(String.format("append(0x%08x) ! IllegalArgumentException%n",
                        bad << shift | 0x6c6c6c6c & ~(255 << shift)));
            }
            rows.append("account(11) = 2\n");
            rows.append(String.format("append(0x%08x) = 3%nappend(0x%08x) = 4%n", 32 << shift, 126 << shift));
            Runs.holds("Promise 34", words, rows.toString());
        }
        // A buffer that is full refuses such a byte for that reason still.
        Runs.holds("Promise 34", words, """
                append "sillO;sillO;sillO;sillO;sillO;sillO;sillO;sillO;sillO;sillO;" = 60
                append({0x1f, 0x7f000000, 0x20202001}) ! IllegalArgumentException
                account(11) = 60
                """);
        words = "Throws `IllegalStateException` if there would be more than 60 characters";
        Runs.holds("Promise 34", words, """
                append "sillO;sillO;sillO;sillO;sillO;sillO;sillO;sillO;sillO;si" = 56
                append(0x6c6c4f3b) = 60
                append({0x20, 0x20202020, 0x20000000}) ! IllegalStateException
                append(0) = 60
                """);
        Runs.holds("Promise 34", words, """
                append "sillO;sillO;sillO;sillO;sillO;sillO;sillO;sillO;sillO;sil" = 57
                append(0x6c4f3b73) ! IllegalStateException
                account(11) = 57
                append(0x6c4f3b) = 60
                """);
        Runs.holds("Promise 34", words, """
                append "sillO;sillO;sillO;sillO;sillO;sillO;sillO;sillO;sillO;shut0" = 59
                append({0x20202020, 0x20202000, 0x202020, 0x20200000, 0x20000020}) ! IllegalStateException
                account(11) = 59
                append(0x00003b00) = 60
                append(0x00003b00) ! IllegalStateException
                """);
    }

    private static void read() {
        Runs.holds("Promise 35", "Carries out the orders in the input buffer, one after the other, all of them or none.", """
                read "door0os12" = 1
                account(0) = 1
                // Each order finds what those before it did.
                read "sillS;set0@0;end0Ss=z;knock0:osS;shut0;knock0:isS" = 6
                line(0) = "osz1-2@0!1"
                account(12) = 2
                read "knock0:isS;knock0:isS;key0o;free0>0;knock0:osS" = 5
                line(0) = "osz1-2@0+"
                // All orders but the last one could be carried out, or but the first.
                read "shut0;sillO;sillO;set0@2;shut0" ! UnsupportedOperationException order 4 refusal 5 0
                read "shut1;shut0;sillO" ! UnsupportedOperationException order 0
                line(0) = "osz1-2@0+"
                account({0, 1, 2, 12}) = 1, 1, 1, 3
                undo() = 2
                line(0) = "osz1-2@0!1"
                undo() = 1
                undo() = 0
                account(0) = 0
                """);
        // None is carried out if the text is malformed behind it.
        Runs.holds("Promise 35", "all of them or none", """
                read "sillO;sillO;" ! IllegalArgumentException at 12
                read "sillO;sillX" ! IllegalArgumentException at 10
                account({1, 12}) = 0
                """);
        // Doors, thresholds and keys that were refused together leave nothing behind.
        Runs.holds("Promise 35", "all of them or none", """
                read "door2gd45;sillL;set0@0;key2g;end0Os=z;knock0:gdL;shut9" ! UnsupportedOperationException order 6
                account({0..9}) = 0
                account({10, 12}) = 5, 0
                door(0, 0, false, 0, 1) = 0
                threshold(0) = 0
                key(0, 0) = 0
                doorOf(0, {0..10}) = 0, 0, 0, -1, 0, 0, 0, 0, 0, 1, 0
                thresholdOf(0, {0, 1}) = 0
                keysFor(0) = 1
                """);
        Runs.holds("Promise 35", "The buffer is empty afterwards in any case.", """
                append "sillO" = 5
                account(11) = 5
                read "" = 1
                account(11) = 0
                append "sill" = 4
                read "" ! IllegalArgumentException at 4
                account(11) = 0
                append "shut0" = 5
                read "" ! UnsupportedOperationException order 0
                account(11) = 0
                read "" ! IllegalArgumentException at 0
                account(11) = 0
                // Sixty characters find room again.
                append "sillO;sillO;sillO;sillO;sillO;sillO;sillO;sillO;sillO;sillO;" = 60
                read "" ! IllegalArgumentException at 60
                append "sillO" = 5
                read "" = 1
                account(1) = 2
                """);
        Runs.holds("Promise 35", "Returns the number of orders.", """
                read "sillO" = 1
                read "sillO;sillO" = 2
                read "sillO;sillO;sillO" = 3
                read "key0o;key0i;key0g;key1o;key1i;end0Os=z;end0Os=y;end0Os=x" = 8
                read "door0os12;knock0:osO;shut0;knock0:osO;shut0" = 5
                """);
    }

    private static void readThrows() {
        String words = "Throws `IllegalArgumentException` if the input is malformed; the error position is then kept for"
                + " errorPosition";
        Runs.holds("Promise 35", words, """
                door(0, 0, false, 0, 1) = 0
                read "" ! IllegalArgumentException at 0
                read "sill" ! IllegalArgumentException at 4
                read "sillO;shut0x" ! IllegalArgumentException at 11
                read "shut0;shut" ! IllegalArgumentException at 10
                account({1, 12}) = 0, 1
                // What would be refused is not looked at in a text that is malformed.
                refusal(false) ! IllegalStateException
                refusedItem() ! NoSuchElementException
                """);
        // With as many changes as can be undone, none of them is lost.
        Runs.holds("Promise 35", words, """
                tellEnding(0, 0, false, {1..8}) = 0..7
                account(12) = 8
                read "sillO;x" ! IllegalArgumentException at 6
                account(12) = 8
                """);
    }

    private static void readRefused() {
        String words = "Throws `UnsupportedOperationException` if a method for an order would throw an exception; the number"
                + " of this order, counted from 0, is then kept for refusedItem, and the refusal, if there is one";
        // By a refusal for each reason, with the details as the orders before it left them.
        Runs.holds("Promise 35", words, """
                door(0, 0, false, 0, 1) = 0
                key(1, 0) = 0
                read "sillO;sillO;sillO;sillO;sillO;sillO;sillO" ! UnsupportedOperationException order 6 refusal 1 6
                read "key0o;key0i;key0g;key2o;key1i;key1g" ! UnsupportedOperationException order 4 refusal 1 5
                read "key0o;key0o" ! UnsupportedOperationException order 1 refusal 2 1
                read "end0Os=b;end0Os=b" ! UnsupportedOperationException order 1 refusal 2 1
                read "sillA;govern0A" ! UnsupportedOperationException order 1 refusal 2 2
                read "sillO;set0@0;set0@0" ! UnsupportedOperationException order 2 refusal 2 0
                read "set0@-" ! UnsupportedOperationException order 0 refusal 2 -1
                read "knock0:isO;knock0:isO;knock0:isO;knock0:osO" ! UnsupportedOperationException order 3 refusal 3 1
                read "door0os12;knock1:osO;knock0:osO;knock0:osO" ! UnsupportedOperationException order 3 refusal 4 2
                read "door0os12;knock1:osO;shut0" ! UnsupportedOperationException order 2 refusal 5 1
                read "knock0:isO;knock0:isO;free0>0" ! UnsupportedOperationException order 2 refusal 6 2
                read "knock0:isO;knock0:isO;knock0:isO;free0>0" ! UnsupportedOperationException order 3 refusal 7 1
                account({0..9}) = 1, 0, 1, 0, 0, 0, 0, 0, 0, 0
                account(12) = 2
                """);
        Runs.holds("Promise 35", words, """
                2 * door(0, 0, false, 0, 1) = 0, 1
                read "door0os12;door0os12;door0os12;door0os12;door0os12;door0os12" = 6
                read "sillO;door0os12" ! UnsupportedOperationException order 1 refusal 1 8
                account({0, 1}) = 8, 0
                """);
        // By another exception of the methods: then the refusal before it stays.
        Runs.holds("Promise 35", words, """
                door(0, 0, false, 0, 1) = 0
                threshold(0) = 0
                shut(0) ! UnsupportedOperationException 5 0
                read "door3os12" "door0os11" "door0os16" "door0os61" "door0os66" ! UnsupportedOperationException order 0
                read "govern1O" "set1@-" "set0@1" "end3Os=a" "key3o" "knock1:osO" ! UnsupportedOperationException order 0
                read "shut1" "free0>0" "free0>1" ! UnsupportedOperationException order 0
                read "sillO;sillO;shut1" ! UnsupportedOperationException order 2
                refusal({false, true}) = 5, 0
                """);
        // With as many changes as can be undone, none of them is lost.
        Runs.holds("Promise 35", words, """
                tellEnding(0, 0, false, {1..8}) = 0..7
                account(12) = 8
                read "sillO;shut0" ! UnsupportedOperationException order 1
                read "sillO;govern0O" ! UnsupportedOperationException order 1 refusal 2 0
                account(12) = 8
                read "sillO" = 1
                account(12) = 8
                """);
    }

    private static void errorPosition() {
        Runs.holds("Promise 36", "Returns the error position of the last input that was malformed, whatever was read after"
                + " it.", """
                door(0, 0, false, 0, 1) = 0
                read "shut" ! IllegalArgumentException at 4
                read "sillO" = 1
                errorPosition() = 4
                read "shut0" ! UnsupportedOperationException order 0 refusal 5 0
                errorPosition() = 4
                read "" ! IllegalArgumentException at 0
                errorPosition() = 0
                clear() = 1
                errorPosition() = 0
                """);
        Runs.holds("Promise 36", "Returns the error position.", """
                read "sillO;sillO;sillO;sillO;sillO;sillO;sillO;sillO;sillO;sillO;" ! IllegalArgumentException at 60
                errorPosition() = 60
                read "x" ! IllegalArgumentException at 0
                errorPosition() = 0
                """);
        Runs.holds("Promise 36", "Throws `NoSuchElementException` if there was none", """
                errorPosition() ! NoSuchElementException
                read "sillO" = 1
                read "shut0" ! UnsupportedOperationException order 0
                errorPosition() ! NoSuchElementException
                read "" ! IllegalArgumentException at 0
                errorPosition() = 0
                """);
    }

    private static void refusedItem() {
        Runs.holds("Promise 37", "Returns the number of the order for which the last input was refused, whatever was read"
                + " after it.", """
                read "sillO;shut0" ! UnsupportedOperationException order 1
                read "sillO" = 1
                refusedItem() = 1
                read "shut" ! IllegalArgumentException at 4
                refusedItem() = 1
                read "shut0;sillO" ! UnsupportedOperationException order 0
                refusedItem() = 0
                clear() = 0
                refusedItem() = 0
                """);
        Runs.holds("Promise 37", "Returns the number of the order.", """
                key(0, 0) = 0
                read "key0i;key0g;key1o;key1i;sillO;sillO;sillO;sillO;sillO;shut0" ! UnsupportedOperationException order 9
                refusedItem() = 9
                read "shut0" ! UnsupportedOperationException order 0
                refusedItem() = 0
                """);
        Runs.holds("Promise 37", "Throws `NoSuchElementException` if there was none", """
                refusedItem() ! NoSuchElementException
                shut(0) ! IndexOutOfBoundsException
                threshold(0) = 0
                govern(0, 0) ! UnsupportedOperationException 2 0
                read "shut" ! IllegalArgumentException at 4
                read "sillO" = 1
                refusedItem() ! NoSuchElementException
                """);
    }
}
