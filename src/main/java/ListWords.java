/**
 * Lists as texts: elements read one by one, and written so that they read back just as they were.
 */
public final class ListWords {
    public static final int NONE = -1, BAD = -2, LONG = -3;

    private static final int MOST_BYTES = 1024;
    private static final int BYTES_OF_A_FEED = 20;
    private static final int TAB = 9, NEWLINE = 10, RETURN = 13, SPACE = 32;
    private static final int NO_DIGIT = 16;

    /** Behind a backslash these letters mean the bytes from FIRST_LETTERED on, in their order. */
    private static final String LETTERS = "abtnvfr";
    private static final int FIRST_LETTERED = 7;

    /** The bytes that, like the spaces, keep an element from being written as it is. */
    private static final String MARKS = "\"$;[\\]{}";

    private final Row tape;
    private final Row list;
    private final Row item;

    /** The element that was read last: not the ITEM, which only some calls may change. */
    private final Row word;

    /** Where again() writes: the LIST is still being read then, and stays if all is too long. */
    private final Row written;

    /** Where in the LIST the reading of elements goes on. */
    private int place;

    public ListWords() {
        tape = new Row();
        list = new Row();
        item = new Row();
        word = new Row();
        written = new Row();
        place = 0;
    }

    public boolean feed(int a, int b, int c, int d, int e) {
        if (tape.size() > MOST_BYTES - BYTES_OF_A_FEED) {
            return false;
        }
        tape.putNumber(a);
        tape.putNumber(b);
        tape.putNumber(c);
        tape.putNumber(d);
        tape.putNumber(e);
        return true;
    }

    public boolean end(int n) {
        return tape.cutTo(n);
    }

    public int list() {
        return list.takeAll(tape);
    }

    public int item() {
        return item.takeAll(tape);
    }

    public int count() {
        place = 0;
        int elements = 0;
        int size = nextElement();
        while (size >= 0 && elements < MOST_BYTES) {
            elements++;
            size = nextElement();
        }
        return size == BAD ? BAD : elements;
    }

    public int element(int k) {
        int elements = count();
        if (elements == BAD) {
            return BAD;
        }
        if (k < 0 || k >= elements) {
            return NONE;
        }
        place = 0;
        for (int i = 0; i <= k; i++) {
            nextElement();
        }
        return item.takeAll(word);
    }

    public int append() {
        int before = list.size();
        if (writeBehind(list, item)) {
            return list.size();
        }
        list.cutTo(before);
        return LONG;
    }

    public int again() {
        // The whole LIST is looked at first: one that is BAD answers so even if its start is too long.
        int elements = count();
        if (elements == BAD) {
            return BAD;
        }
        written.cutTo(0);
        place = 0;
        for (int i = 0; i < elements; i++) {
            nextElement();
            if (!writeBehind(written, word)) {
                return LONG;
            }
        }
        return list.takeAll(written);
    }

    public int wrap() {
        return item.takeAll(list);
    }

    public int listAt(int i) {
        return list.byteAt(i);
    }

    public int itemAt(int i) {
        return item.byteAt(i);
    }

    /** Reads the element at or behind place into word: how many bytes; NONE; BAD. */
    private int nextElement() {
        int from = behindSpaces(place);
        int first = list.byteAt(from);
        if (first == NONE) {
            return NONE;
        }
        word.cutTo(0);
        int behind;
        if (first == '{') {
            behind = behindCloser(readBraced(from + 1));
        } else if (first == '"') {
            behind = behindCloser(readUnbraced(from + 1, true));
        } else {
            behind = readUnbraced(from, false);
        }
        if (behind == BAD) {
            return BAD;
        }
        place = behind;
        return word.size();
    }

    private int behindSpaces(int from) {
        int i = from;
        while (i < list.size() && isSpace(list.byteAt(i))) {
            i++;
        }
        return i;
    }

    /** Reads up to the brace that closes the one before from: where it stands; BAD. */
    private int readBraced(int from) {
        int open = 1;
        for (int i = from; i < list.size(); i++) {
            int b = list.byteAt(i);
            if (b == '{') {
                open++;
            } else if (b == '}') {
                open--;
            }
            if (open == 0) {
                return i;
            }
            word.put(b);
            if (b == '\\' && i + 1 < list.size()) {
                // A brace behind a backslash is not counted.
                i++;
                word.put(list.byteAt(i));
            }
        }
        return BAD;
    }

    /** Reads up to the next quote, or else to the next space or the end: where it stands; BAD. */
    private int readUnbraced(int from, boolean quoted) {
        for (int i = from; i < list.size(); i++) {
            int b = list.byteAt(i);
            if (quoted ? b == '"' : isSpace(b)) {
                return i;
            }
            word.put(b == '\\' ? meaningOfBackslash(i) : b);
            i += bytesBehindBackslash(i);
        }
        return quoted ? BAD : list.size();
    }

    /** The place behind a closing brace or quote, where only a space or the end may be; BAD. */
    private int behindCloser(int closer) {
        if (closer == BAD) {
            return BAD;
        }
        int b = list.byteAt(closer + 1);
        return b == NONE || isSpace(b) ? closer + 1 : BAD;
    }

    /** The byte that the backslash at i means, with the bytes behind it that are its own. */
    private int meaningOfBackslash(int i) {
        int b = list.byteAt(i + 1);
        if (b == NONE) {
            return '\\';
        }
        if (b == NEWLINE) {
            return SPACE;
        }
        if (b == 'x') {
            int digits = countDigits(i + 2, 2, 16);
            return digits == 0 ? 'x' : numberAt(i + 2, digits, 16);
        }
        int digits = countDigits(i + 1, 3, 8);
        if (digits > 0) {
            return numberAt(i + 1, digits, 8);
        }
        int letter = LETTERS.indexOf((char) b);
        return letter >= 0 ? FIRST_LETTERED + letter : b;
    }

    /** How many bytes behind byte i are its own: none, if it is not a backslash. */
    private int bytesBehindBackslash(int i) {
        int b = list.byteAt(i + 1);
        if (list.byteAt(i) != '\\' || b == NONE) {
            return 0;
        }
        if (b == NEWLINE) {
            return 1 + countBlanks(i + 2);
        }
        if (b == 'x') {
            return 1 + countDigits(i + 2, 2, 16);
        }
        return Math.max(1, countDigits(i + 1, 3, 8));
    }

    private int countBlanks(int from) {
        int i = from;
        while (i < list.size() && (list.byteAt(i) == SPACE || list.byteAt(i) == TAB)) {
            i++;
        }
        return i - from;
    }

    private int countDigits(int from, int most, int base) {
        int digits = 0;
        while (digits < most && digitOf(list.byteAt(from + digits)) < base) {
            digits++;
        }
        return digits;
    }

    private int numberAt(int from, int digits, int base) {
        int number = 0;
        for (int i = 0; i < digits; i++) {
            number = number * base + digitOf(list.byteAt(from + i));
        }
        return number & 255;
    }

    private static int digitOf(int b) {
        if (b >= '0' && b <= '9') {
            return b - '0';
        }
        if (b >= 'a' && b <= 'f') {
            return b - 'a' + 10;
        }
        if (b >= 'A' && b <= 'F') {
            return b - 'A' + 10;
        }
        return NO_DIGIT;
    }

    private static boolean isSpace(int b) {
        return b == SPACE || isNamedSpace(b);
    }

    /** The spaces that are written as a letter behind a backslash. */
    private static boolean isNamedSpace(int b) {
        return b >= TAB && b <= RETURN;
    }

    /** Writes the element behind the text; false when it does not fit, with a part of it written. */
    private static boolean writeBehind(Row text, Row element) {
        if (text.size() > 0 && !text.put(SPACE)) {
            return false;
        }
        if (canStandBare(element)) {
            return text.putAll(element);
        }
        if (canStandInBraces(element)) {
            return text.put('{') && text.putAll(element) && text.put('}');
        }
        return writeWithBackslashes(text, element);
    }

    private static boolean canStandBare(Row element) {
        for (int i = 0; i < element.size(); i++) {
            if (needsBackslash(element, i)) {
                return false;
            }
        }
        return element.size() > 0;
    }

    private static boolean canStandInBraces(Row element) {
        int open = 0;
        for (int i = 0; i < element.size(); i++) {
            int b = element.byteAt(i);
            if (b == '{') {
                open++;
            } else if (b == '}') {
                open--;
            }
            if (b == '\\' || open < 0) {
                return false;
            }
        }
        return open == 0;
    }

    private static boolean writeWithBackslashes(Row text, Row element) {
        for (int i = 0; i < element.size(); i++) {
            int b = element.byteAt(i);
            if (needsBackslash(element, i) && !text.put('\\')) {
                return false;
            }
            if (!text.put(isNamedSpace(b) ? LETTERS.charAt(b - FIRST_LETTERED) : b)) {
                return false;
            }
        }
        return true;
    }

    private static boolean needsBackslash(Row element, int i) {
        int b = element.byteAt(i);
        return isSpace(b) || MARKS.indexOf((char) b) >= 0 || (b == '#' && i == 0);
    }

    /** A text of at most MOST_BYTES bytes, each 0 .. 255; its array is made once and used again. */
    private static final class Row {
        private final int[] bytes;
        private int size;

        Row() {
            bytes = new int[MOST_BYTES];
            size = 0;
        }

        int size() {
            return size;
        }

        /** NONE when there is no such byte. */
        int byteAt(int i) {
            return i >= 0 && i < size ? bytes[i] : NONE;
        }

        /** False, changing nothing, when the row is full. */
        boolean put(int b) {
            if (size >= MOST_BYTES) {
                return false;
            }
            bytes[size] = b & 255;
            size++;
            return true;
        }

        void putNumber(int number) {
            put(number >>> 24);
            put(number >>> 16);
            put(number >>> 8);
            put(number);
        }

        /** False, changing nothing, when not all of the other row fits. */
        boolean putAll(Row other) {
            if (other.size > MOST_BYTES - size) {
                return false;
            }
            System.arraycopy(other.bytes, 0, bytes, size, other.size);
            size += other.size;
            return true;
        }

        /** False, changing nothing, when the row has not n bytes. */
        boolean cutTo(int n) {
            if (n < 0 || n > size) {
                return false;
            }
            size = n;
            return true;
        }

        /** Becomes the other row, which is empty then: how many bytes. */
        int takeAll(Row other) {
            size = 0;
            putAll(other);
            other.size = 0;
            return size;
        }
    }
}
