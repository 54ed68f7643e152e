import java.util.NoSuchElementException;

/**
 * Classes with their members, whose names can be changed so that all that names them goes along:
 * packages, classes, families of methods that override one another, and the texts in the files
 * that are written of them.
 */
public final class NameMover {
    private final Store store = new Store();
    private final ByteRow buffer = new ByteRow();
    /** The file of a class that is being loaded: kept, so that no load makes a row of its own. */
    private final ByteRow trial = new ByteRow();
    private final ClassWriter writer = new ClassWriter(store, buffer);
    private final ClassWriter trialWriter = new ClassWriter(store, trial);
    private final ClassReader reader = new ClassReader(store, buffer);

    public NameMover() {
    }

    public int declare(long name, int superclass, boolean library)
            throws IllegalArgumentException, IndexOutOfBoundsException, IllegalStateException {
        if (!Text.isClassName(name)) {
            throw new IllegalArgumentException("no class name");
        }
        if (superclass != Store.NONE && !store.isClass(superclass)) {
            throw new IndexOutOfBoundsException("no such superclass");
        }
        if (store.isMoving() || store.isFull() || store.classNamed(name, store.count) != Store.NONE) {
            throw new IllegalStateException("moving, 8 classes, or the name is taken");
        }
        store.placeClass(name, superclass, library);
        return store.countPlacedClass();
    }

    public int member(int c, long name, long descriptor, boolean fixed)
            throws IndexOutOfBoundsException, IllegalArgumentException, IllegalStateException {
        requireClass(c);
        if (!Text.isIdentifier(name) || !Descriptor.isOne(descriptor, store.count)) {
            throw new IllegalArgumentException("no identifier or no descriptor");
        }
        if (store.isMoving() || !store.hasRoomFor(c, name, descriptor)) {
            throw new IllegalStateException("moving, 6 members, or there is such a member");
        }
        return store.placeMember(c, name, descriptor, fixed);
    }

    public void moveClass(int c, long name) throws IndexOutOfBoundsException, IllegalArgumentException {
        requireClass(c);
        if (!Text.isClassName(name)) {
            throw new IllegalArgumentException("no class name");
        }
        store.newNames[c] = name;
    }

    public int movePackage(long from, long to) throws IllegalArgumentException {
        if (!Text.isPackage(from) || !Text.isPackage(to) || !store.fitsPackage(from, to)) {
            throw new IllegalArgumentException("no package, or a new name would be too long");
        }
        return store.renamePackage(from, to);
    }

    public int moveMember(int c, int k, long name) throws IndexOutOfBoundsException, IllegalArgumentException {
        requireMember(c, k);
        if (!Text.isIdentifier(name)) {
            throw new IllegalArgumentException("no identifier");
        }
        return store.renameFamily(Store.number(c, k), name);
    }

    public int problem() {
        return Problems.least(store);
    }

    public int apply() throws IllegalStateException {
        if (Problems.least(store) != 0) {
            throw new IllegalStateException("there is a problem");
        }
        int changed = store.changedNames();
        store.takeNewNames();
        return changed;
    }

    public int cancel() {
        int changed = store.changedNames();
        store.dropNewNames();
        return changed;
    }

    public int classes() {
        return store.count;
    }

    public long className(int c, boolean fresh) throws IndexOutOfBoundsException {
        requireClass(c);
        return fresh ? store.newNames[c] : store.names[c];
    }

    public long memberName(int c, int k, boolean fresh) throws IndexOutOfBoundsException {
        requireMember(c, k);
        int m = Store.number(c, k);
        return fresh ? store.memberNewNames[m] : store.memberNames[m];
    }

    public int find(int c, long name, long descriptor) throws IndexOutOfBoundsException, NoSuchElementException {
        requireClass(c);
        int m = store.inheritedMember(c, name, descriptor);
        if (m == Store.NONE) {
            throw new NoSuchElementException("no such member");
        }
        return m;
    }

    public int write(int c) throws IndexOutOfBoundsException {
        requireClass(c);
        writer.compose(c);
        return buffer.size();
    }

    public int byteAt(int i) throws IndexOutOfBoundsException {
        requireByte(i);
        return buffer.get(i);
    }

    public void poke(int i, int b) throws IndexOutOfBoundsException, IllegalArgumentException {
        requireByte(i);
        if (b < 0 || b > 255) {
            throw new IllegalArgumentException("no byte");
        }
        buffer.set(i, b);
    }

    public int load() throws IllegalStateException, IllegalArgumentException {
        if (store.isMoving() || store.isFull()) {
            throw new IllegalStateException("moving, or 8 classes");
        }
        if (!reader.placeClass() || !isFileOfPlacedClass()) {
            throw new IllegalArgumentException("no class has this file");
        }
        return store.countPlacedClass();
    }

    private boolean isFileOfPlacedClass() {
        trialWriter.compose(store.count);
        return trial.isEqualTo(buffer);
    }

    private void requireClass(int c) {
        if (!store.isClass(c)) {
            throw new IndexOutOfBoundsException("no such class");
        }
    }

    private void requireMember(int c, int k) {
        if (!store.isMember(c, k)) {
            throw new IndexOutOfBoundsException("no such member");
        }
    }

    private void requireByte(int i) {
        if (!buffer.has(i)) {
            throw new IndexOutOfBoundsException("no such byte");
        }
    }

    /** Texts of at most 8 characters in a long, the first character lowest. */
    private static final class Text {
        static final int MOST = 8;
        static final long EMPTY = 0L;

        static int charAt(long text, int i) {
            // Java shifts by 64 as by 0, which would show the first character again behind the last.
            return i < 0 || i >= MOST ? 0 : (int) (text >>> 8 * i) & 255;
        }

        static long placed(int ch, int i) {
            return i < 0 || i >= MOST ? EMPTY : (long) (ch & 255) << 8 * i;
        }

        /** Counted from behind, so that a zero between characters is a character, and a wrong one. */
        static int length(long text) {
            int length = MOST;
            while (length > 0 && charAt(text, length - 1) == 0) {
                length--;
            }
            return length;
        }

        static boolean isClassName(long text) {
            int length = length(text);
            boolean starting = true;
            for (int i = 0; i < length; i++) {
                int ch = charAt(text, i);
                if (starting) {
                    if (!isLetter(ch)) {
                        return false;
                    }
                    starting = false;
                } else if (ch == '/') {
                    starting = true;
                } else if (!isLetter(ch) && !isDigit(ch)) {
                    return false;
                }
            }
            return !starting;
        }

        static boolean isIdentifier(long text) {
            return isClassName(text) && lastSlash(text) < 0;
        }

        static boolean isPackage(long text) {
            return text == EMPTY || isClassName(text);
        }

        static long packageOf(long className) {
            int slash = lastSlash(className);
            return slash < 0 ? EMPTY : className & (1L << 8 * slash) - 1;
        }

        /** The class name with another package, or the empty text if that is too long. */
        static long inPackage(long className, long to) {
            long last = lastIdentifier(className);
            if (to == EMPTY) {
                return last;
            }
            int slash = length(to);
            if (slash + 1 + length(last) > MOST) {
                return EMPTY;
            }
            return to | placed('/', slash) | last << 8 * (slash + 1);
        }

        private static long lastIdentifier(long className) {
            int start = lastSlash(className) + 1;
            return start >= MOST ? EMPTY : className >>> 8 * start;
        }

        private static int lastSlash(long text) {
            int i = MOST - 1;
            while (i >= 0 && charAt(text, i) != '/') {
                i--;
            }
            return i;
        }

        private static boolean isLetter(int ch) {
            return ch >= 'a' && ch <= 'z' || ch >= 'A' && ch <= 'Z';
        }

        private static boolean isDigit(int ch) {
            return ch >= '0' && ch <= '9';
        }
    }

    /** Descriptors, with the numbers of classes as digits. */
    private static final class Descriptor {
        private static final int WRONG = -1;

        /** Whether the text is a descriptor where the classes below the limit are there. */
        static boolean isOne(long text, int limit) {
            int length = Text.length(text);
            if (!isMethod(text)) {
                return behindType(text, 0, limit) == length;
            }
            int result = behindParameters(text, limit);
            if (result == WRONG) {
                return false;
            }
            if (Text.charAt(text, result) == 'V') {
                return result + 1 == length;
            }
            return behindType(text, result, limit) == length;
        }

        static boolean isMethod(long text) {
            return Text.charAt(text, 0) == '(';
        }

        static boolean isClassDigit(int ch, int limit) {
            return ch >= '0' && ch < '0' + limit;
        }

        private static int behindParameters(long text, int limit) {
            int at = 1;
            for (int types = 0; types < Text.MOST; types++) {
                if (at == WRONG) {
                    return WRONG;
                }
                if (Text.charAt(text, at) == ')') {
                    return at + 1;
                }
                at = behindType(text, at, limit);
            }
            return WRONG;
        }

        private static int behindType(long text, int start, int limit) {
            int at = start;
            while (at < Text.MOST && Text.charAt(text, at) == '[') {
                at++;
            }
            int ch = Text.charAt(text, at);
            boolean ends = ch == 'I' || ch == 'J' || ch == 'Z' || isClassDigit(ch, limit);
            return ends ? at + 1 : WRONG;
        }
    }

    /**
     * The classes and members with their names and new names. The rows go on behind the last class:
     * a class is placed there first, and is there for others only when it is counted.
     */
    private static final class Store {
        static final int NONE = -1;
        static final int MOST_CLASSES = 8;
        static final int MOST_MEMBERS = 6;
        private static final int STEP = 8;
        private static final int ROW = MOST_CLASSES * STEP;

        final long[] names = new long[MOST_CLASSES];
        final long[] newNames = new long[MOST_CLASSES];
        final int[] superclasses = new int[MOST_CLASSES];
        final boolean[] libraries = new boolean[MOST_CLASSES];
        final int[] memberCounts = new int[MOST_CLASSES];
        /** Bit a of ancestors[c] tells that class a is an ancestor of class c. */
        private final int[] ancestors = new int[MOST_CLASSES];

        final long[] memberNames = new long[ROW];
        final long[] memberNewNames = new long[ROW];
        final long[] descriptors = new long[ROW];
        final boolean[] fixed = new boolean[ROW];

        int count = 0;

        /** What the document calls member k of class c in one number. */
        static int number(int c, int k) {
            return STEP * c + k;
        }

        static int classOf(int m) {
            return m / STEP;
        }

        int numbersEnd() {
            return STEP * count;
        }

        boolean isClass(int c) {
            return c >= 0 && c < count;
        }

        boolean isMember(int c, int k) {
            return isClass(c) && k >= 0 && k < memberCounts[c];
        }

        boolean isMemberNumber(int m) {
            return m >= 0 && isMember(classOf(m), m % STEP);
        }

        boolean isFull() {
            return count >= MOST_CLASSES;
        }

        /** The class below the limit that has this name. */
        int classNamed(long name, int limit) {
            for (int c = 0; c < limit && c < MOST_CLASSES; c++) {
                if (names[c] == name) {
                    return c;
                }
            }
            return NONE;
        }

        /** The number in one of the member that class c has itself. */
        int ownMember(int c, long name, long descriptor) {
            for (int k = 0; k < memberCounts[c]; k++) {
                int m = number(c, k);
                if (memberNames[m] == name && descriptors[m] == descriptor) {
                    return m;
                }
            }
            return NONE;
        }

        int inheritedMember(int c, long name, long descriptor) {
            // An ancestor has a lesser number than what it is an ancestor of: downwards is upwards.
            for (int a = c; a >= 0; a--) {
                int m = isSameOrAncestor(a, c) ? ownMember(a, name, descriptor) : NONE;
                if (m != NONE) {
                    return m;
                }
            }
            return NONE;
        }

        boolean isSameOrAncestor(int a, int c) {
            return a == c || (ancestors[c] >> a & 1) == 1;
        }

        boolean hasRoomFor(int c, long name, long descriptor) {
            return memberCounts[c] < MOST_MEMBERS && ownMember(c, name, descriptor) == NONE;
        }

        void placeClass(long name, int superclass, boolean library) {
            names[count] = name;
            newNames[count] = name;
            superclasses[count] = superclass;
            libraries[count] = library;
            memberCounts[count] = 0;
            ancestors[count] = superclass == NONE ? 0 : ancestors[superclass] | 1 << superclass;
        }

        int countPlacedClass() {
            count++;
            return count - 1;
        }

        int placeMember(int c, long name, long descriptor, boolean isFixed) {
            int k = memberCounts[c];
            int m = number(c, k);
            memberNames[m] = name;
            memberNewNames[m] = name;
            descriptors[m] = descriptor;
            fixed[m] = isFixed;
            memberCounts[c] = k + 1;
            return k;
        }

        boolean isMoving() {
            return changedNames() > 0;
        }

        int changedNames() {
            int changed = 0;
            for (int c = 0; c < count; c++) {
                if (newNames[c] != names[c]) {
                    changed++;
                }
            }
            for (int m = 0; m < numbersEnd(); m++) {
                if (isMemberNumber(m) && memberNewNames[m] != memberNames[m]) {
                    changed++;
                }
            }
            return changed;
        }

        void takeNewNames() {
            System.arraycopy(newNames, 0, names, 0, MOST_CLASSES);
            System.arraycopy(memberNewNames, 0, memberNames, 0, ROW);
        }

        void dropNewNames() {
            System.arraycopy(names, 0, newNames, 0, MOST_CLASSES);
            System.arraycopy(memberNames, 0, memberNewNames, 0, ROW);
        }

        boolean fitsPackage(long from, long to) {
            for (int c = 0; c < count; c++) {
                if (goesWithPackage(c, from) && Text.inPackage(names[c], to) == Text.EMPTY) {
                    return false;
                }
            }
            return true;
        }

        int renamePackage(long from, long to) {
            int renamed = 0;
            for (int c = 0; c < count; c++) {
                if (goesWithPackage(c, from)) {
                    newNames[c] = Text.inPackage(names[c], to);
                    renamed++;
                }
            }
            return renamed;
        }

        private boolean goesWithPackage(int c, long from) {
            return !libraries[c] && Text.packageOf(names[c]) == from;
        }

        int renameFamily(int first, long name) {
            int renamed = 0;
            for (int m = 0; m < numbersEnd(); m++) {
                if (isMemberNumber(m) && inOneFamily(first, m)) {
                    memberNewNames[m] = name;
                    renamed++;
                }
            }
            return renamed;
        }

        private boolean inOneFamily(int x, int y) {
            if (x == y) {
                return true;
            }
            return canOverride(x) && canOverride(y)
                    && memberNames[x] == memberNames[y] && descriptors[x] == descriptors[y]
                    && familyTop(x) == familyTop(y);
        }

        private boolean canOverride(int m) {
            return !fixed[m] && Descriptor.isMethod(descriptors[m]);
        }

        /**
         * The highest of a method's class and its ancestors that takes part in its family. A class has
         * one superclass at most, so methods hang together just when they have the same top.
         */
        private int familyTop(int m) {
            int c = classOf(m);
            for (int a = 0; a < c; a++) {
                int top = isSameOrAncestor(a, c) ? ownMember(a, memberNames[m], descriptors[m]) : NONE;
                if (top != NONE && canOverride(top)) {
                    return a;
                }
            }
            return c;
        }
    }

    /** The problems of the new names. Each kind answers its least number, or 0. */
    private static final class Problems {
        static int least(Store store) {
            int found = libraryClass(store);
            if (found == 0) {
                found = libraryMember(store);
            }
            if (found == 0) {
                found = sameClassName(store);
            }
            if (found == 0) {
                found = otherPackages(store);
            }
            if (found == 0) {
                found = sameMemberName(store);
            }
            return found;
        }

        private static int told(int kind, int x, int y) {
            return 10000 * kind + 100 * x + y;
        }

        private static int libraryClass(Store store) {
            for (int c = 0; c < store.count; c++) {
                if (store.libraries[c] && store.newNames[c] != store.names[c]) {
                    return told(1, c, 0);
                }
            }
            return 0;
        }

        private static int libraryMember(Store store) {
            for (int m = 0; m < store.numbersEnd(); m++) {
                if (store.isMemberNumber(m) && store.libraries[Store.classOf(m)]
                        && store.memberNewNames[m] != store.memberNames[m]) {
                    return told(2, m, 0);
                }
            }
            return 0;
        }

        private static int sameClassName(Store store) {
            for (int x = 0; x < store.count; x++) {
                for (int y = x + 1; y < store.count; y++) {
                    if (store.newNames[x] == store.newNames[y]) {
                        return told(3, x, y);
                    }
                }
            }
            return 0;
        }

        private static int otherPackages(Store store) {
            for (int x = 0; x < store.count; x++) {
                for (int y = x + 1; y < store.count; y++) {
                    if (inOnePackage(store.names[x], store.names[y])
                            != inOnePackage(store.newNames[x], store.newNames[y])) {
                        return told(4, x, y);
                    }
                }
            }
            return 0;
        }

        private static boolean inOnePackage(long x, long y) {
            return Text.packageOf(x) == Text.packageOf(y);
        }

        private static int sameMemberName(Store store) {
            for (int x = 0; x < store.numbersEnd(); x++) {
                int y = store.isMemberNumber(x) ? firstThatBecomes(store, x) : Store.NONE;
                if (y != Store.NONE) {
                    return told(5, x, y);
                }
            }
            return 0;
        }

        private static int firstThatBecomes(Store store, int x) {
            for (int y = x + 1; y < store.numbersEnd(); y++) {
                if (store.isMemberNumber(y) && becomeOne(store, x, y)) {
                    return y;
                }
            }
            return Store.NONE;
        }

        private static boolean becomeOne(Store store, int x, int y) {
            // x is less than y, so its class can be an ancestor of the other's, never the other way round.
            return store.isSameOrAncestor(Store.classOf(x), Store.classOf(y))
                    && store.descriptors[x] == store.descriptors[y]
                    && store.memberNewNames[x] == store.memberNewNames[y]
                    && store.memberNames[x] != store.memberNames[y];
        }
    }

    /** A row of bytes with its length; longer than any file, so that one row serves for all of them. */
    private static final class ByteRow {
        /** No file has more than 474 bytes: six descriptors of at most 62 characters are most of it. */
        static final int MOST = 512;

        private final int[] bytes = new int[MOST];
        private int length = 0;

        int size() {
            return length;
        }

        void cutTo(int size) {
            length = Math.max(0, Math.min(size, length));
        }

        boolean has(int i) {
            return i >= 0 && i < length;
        }

        /** Byte i, 0 where there is none. */
        int get(int i) {
            return i >= 0 && i < length ? bytes[i] : 0;
        }

        void set(int i, int b) {
            if (has(i)) {
                bytes[i] = b;
            }
        }

        void append(int b) {
            if (length < MOST) {
                bytes[length] = b;
                length++;
            }
        }

        boolean isEqualTo(ByteRow other) {
            return length == other.length && hasEqualBytes(0, other, 0, length);
        }

        boolean hasEqualBytes(int start, ByteRow other, int otherStart, int size) {
            for (int i = 0; i < size; i++) {
                if (get(start + i) != other.get(otherStart + i)) {
                    return false;
                }
            }
            return true;
        }
    }

    /** What the writer and the reader of files must agree on. */
    private static final class Format {
        static final int MARK = 202;
        static final int TEXTS_AT = 1;
        static final int POOL_AT = 2;
        /** A class's name, its superclass's, and a name and a descriptor for each member. */
        static final int MOST_TEXTS = 2 + 2 * Store.MOST_MEMBERS;
        /** Four bytes for the class and three for each member. */
        static final int MOST_BEHIND_POOL = 4 + 3 * Store.MOST_MEMBERS;
    }

    /** Makes the files of classes. */
    private static final class ClassWriter {
        private final Store store;
        private final ByteRow row;
        /** What follows the pool: it must wait until the pool is whole. */
        private final int[] behindPool = new int[Format.MOST_BEHIND_POOL];
        private int waiting = 0;
        /** Where text 1, 2, .. of the pool starts, with its length. */
        private final int[] starts = new int[Format.MOST_TEXTS + 1];
        private int texts = 0;

        ClassWriter(Store store, ByteRow row) {
            this.store = store;
            this.row = row;
        }

        /** The row becomes the file of class c. */
        void compose(int c) {
            begin();
            useText(store.names[c]);
            int superclass = store.superclasses[c];
            if (superclass == Store.NONE) {
                useNumber(0);
            } else {
                useText(store.names[superclass]);
            }
            useNumber(store.libraries[c] ? 1 : 0);
            useNumber(store.memberCounts[c]);
            for (int k = 0; k < store.memberCounts[c]; k++) {
                int m = Store.number(c, k);
                useText(store.memberNames[m]);
                useDescriptor(store.descriptors[m]);
                useNumber(store.fixed[m] ? 1 : 0);
            }
            end();
        }

        private void begin() {
            row.cutTo(0);
            row.append(Format.MARK);
            row.append(0);
            texts = 0;
            waiting = 0;
        }

        private void end() {
            row.set(Format.TEXTS_AT, texts);
            for (int i = 0; i < waiting; i++) {
                row.append(behindPool[i]);
            }
        }

        private void useNumber(int b) {
            if (waiting < Format.MOST_BEHIND_POOL) {
                behindPool[waiting] = b;
                waiting++;
            }
        }

        private void useText(long text) {
            openText();
            appendText(text);
            closeText();
        }

        private void useDescriptor(long descriptor) {
            openText();
            int length = Text.length(descriptor);
            for (int i = 0; i < length; i++) {
                int ch = Text.charAt(descriptor, i);
                if (Descriptor.isClassDigit(ch, Store.MOST_CLASSES)) {
                    row.append('L');
                    appendText(store.names[ch - '0']);
                    row.append(';');
                } else {
                    row.append(ch);
                }
            }
            closeText();
        }

        private void appendText(long text) {
            int length = Text.length(text);
            for (int i = 0; i < length; i++) {
                row.append(Text.charAt(text, i));
            }
        }

        /** A text is written behind the pool at once, so that none has to be kept elsewhere .. */
        private void openText() {
            if (texts < Format.MOST_TEXTS) {
                texts++;
                starts[texts] = row.size();
                row.append(0);
            }
        }

        /** .. and is taken away again if the pool has it already. */
        private void closeText() {
            int start = starts[texts];
            int length = row.size() - start - 1;
            row.set(start, length);
            int known = 1;
            while (known < texts && !row.hasEqualBytes(starts[known], row, start, length + 1)) {
                known++;
            }
            if (known < texts) {
                row.cutTo(start);
                texts--;
            }
            useNumber(known);
        }
    }

    /** Makes classes of files. */
    private static final class ClassReader {
        private static final int NOT_THERE = -2;

        private final Store store;
        private final ByteRow row;
        /** Where text 1, 2, .. of the pool starts, with its length. */
        private final int[] starts = new int[Format.MOST_TEXTS + 1];
        private int texts = 0;
        private int at = 0;

        ClassReader(Store store, ByteRow row) {
            this.store = store;
            this.row = row;
        }

        /**
         * Places the class that the row tells of; false if there can be none. A row that is no file may
         * pass here, as its numbers are taken for what they most nearly are: the file of the class that
         * is placed is then another row.
         */
        boolean placeClass() {
            if (!skipPool()) {
                return false;
            }
            long name = shortText(nextText());
            if (!Text.isClassName(name) || store.classNamed(name, store.count) != Store.NONE) {
                return false;
            }
            int superclass = nextSuperclass();
            if (superclass == NOT_THERE) {
                return false;
            }
            store.placeClass(name, superclass, nextByte() == 1);
            int members = nextByte();
            for (int k = 0; k < members; k++) {
                if (!placeMember()) {
                    return false;
                }
            }
            return true;
        }

        private boolean placeMember() {
            int c = store.count;
            long name = shortText(nextText());
            long descriptor = compactDescriptor(nextText());
            boolean fixed = nextByte() == 1;
            if (!Text.isIdentifier(name) || !Descriptor.isOne(descriptor, c + 1)
                    || !store.hasRoomFor(c, name, descriptor)) {
                return false;
            }
            store.placeMember(c, name, descriptor, fixed);
            return true;
        }

        private boolean skipPool() {
            texts = row.get(Format.TEXTS_AT);
            at = Format.POOL_AT;
            if (texts > Format.MOST_TEXTS) {
                return false;
            }
            for (int t = 1; t <= texts; t++) {
                starts[t] = at;
                at += 1 + row.get(at);
            }
            return at <= row.size();
        }

        private int nextByte() {
            at++;
            return row.get(at - 1);
        }

        /** The number of a text in the pool, 0 if the pool has none of this number. */
        private int nextText() {
            int t = nextByte();
            return t <= texts ? t : 0;
        }

        private int nextSuperclass() {
            int number = nextByte();
            if (number == 0) {
                return Store.NONE;
            }
            int superclass = number > texts ? Store.NONE : store.classNamed(shortText(number), store.count);
            return superclass == Store.NONE ? NOT_THERE : superclass;
        }

        private int textLength(int t) {
            return t == 0 ? 0 : row.get(starts[t]);
        }

        private int textChar(int t, int i) {
            return row.get(starts[t] + 1 + i);
        }

        private long shortText(int t) {
            return shortText(t, 0, textLength(t));
        }

        /** The characters from start to end, or the empty text if they are too many. */
        private long shortText(int t, int start, int end) {
            if (end - start > Text.MOST) {
                return Text.EMPTY;
            }
            long text = Text.EMPTY;
            for (int i = start; i < end; i++) {
                text |= Text.placed(textChar(t, i), i - start);
            }
            return text;
        }

        /** The descriptor with digits for the classes' names, or the empty text if there is none such. */
        private long compactDescriptor(int t) {
            long compact = Text.EMPTY;
            int size = 0;
            int length = textLength(t);
            for (int i = 0; i < length; i++) {
                int ch = textChar(t, i);
                if (ch == 'L') {
                    int end = semicolon(t, i, length);
                    int c = store.classNamed(shortText(t, i + 1, end), store.count + 1);
                    if (c == Store.NONE) {
                        return Text.EMPTY;
                    }
                    ch = '0' + c;
                    // Never back, so that the loop is seen to end.
                    i = Math.max(i, end);
                }
                if (size == Text.MOST) {
                    return Text.EMPTY;
                }
                compact |= Text.placed(ch, size);
                size++;
            }
            return compact;
        }

        private int semicolon(int t, int start, int length) {
            int i = start;
            while (i < length && textChar(t, i) != ';') {
                i++;
            }
            return i;
        }
    }
}
