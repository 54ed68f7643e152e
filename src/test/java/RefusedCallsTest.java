/**
 * Each exception that a promise names: the call that is refused, which exception comes first where several
 * are due, and, by an equal object without that call, that the refused call changes nothing.
 */
public final class RefusedCallsTest {
    private static final Checks CHECKS = new Checks();
    private static final int[] NO_CLASSES = {-1, 3, 7, 8, Integer.MIN_VALUE, Integer.MAX_VALUE};
    private static final String[] NO_CLASS_NAMES = {"", "1", "/", "a/", "/a", "a//b", "a-b", "a\u0000b"};
    private static final String[] NO_IDENTIFIERS = {"", "1", "1a", "a/b", "a-b", "a\u0000b"};
    private static final String[] NO_DESCRIPTORS = {"", "V", "3", "8", "[", "II", "(", "()", "(V)V", "()VV", "LA;"};

    private interface Stage {
        NameMover made();
    }

    private interface Refused {
        void call(NameMover x);
    }

    private static long t(String characters) {
        return Checks.text(characters);
    }

    public static void main(String[] args) {
        CHECKS.all(
                RefusedCallsTest::declareNoClassName,
                RefusedCallsTest::declareNoSuperclass,
                RefusedCallsTest::declareInAWrongState,
                RefusedCallsTest::memberOfNoClass,
                RefusedCallsTest::memberWithoutNameOrDescriptor,
                RefusedCallsTest::memberInAWrongState,
                RefusedCallsTest::moveClassOfNoClass,
                RefusedCallsTest::moveClassToNoClassName,
                RefusedCallsTest::movePackageOfNoPackage,
                RefusedCallsTest::movePackageThatIsTooLong,
                RefusedCallsTest::moveMemberOfNoMember,
                RefusedCallsTest::moveMemberToNoIdentifier,
                RefusedCallsTest::applyWithAProblem,
                RefusedCallsTest::namesOfNothing,
                RefusedCallsTest::findInNoClass,
                RefusedCallsTest::findNothing,
                RefusedCallsTest::writeNoClass,
                RefusedCallsTest::byteAtNowhere,
                RefusedCallsTest::pokeNowhere,
                RefusedCallsTest::pokeNoByte,
                RefusedCallsTest::loadInAWrongState,
                RefusedCallsTest::loadNoFile,
                RefusedCallsTest::loadNoName,
                RefusedCallsTest::loadNoDescriptor,
                RefusedCallsTest::loadTheSameMembers,
                RefusedCallsTest::loadWhatIsNotThere,
                RefusedCallsTest::loadWhatIsThere);
    }

    /** Three classes in a chain, the last one a library class, with a file in the buffer that can be loaded. */
    private static NameMover resting() {
        NameMover x = new NameMover();
        x.declare(t("p/A"), -1, false);
        x.declare(t("p/B"), 0, false);
        x.declare(t("q/C"), 1, true);
        x.member(0, t("m"), t("()V"), false);
        x.member(0, t("f"), t("I"), false);
        x.member(1, t("m"), t("()V"), false);
        x.member(2, t("g"), t("[0"), true);
        x.write(1);
        x.poke(3, 'r');
        return x;
    }

    private static NameMover withAMovingClass() {
        NameMover x = resting();
        x.moveClass(0, t("p/X"));
        return x;
    }

    private static NameMover withAMovingMember() {
        NameMover x = resting();
        x.moveMember(0, 1, t("n"));
        return x;
    }

    private static NameMover withAProblem() {
        NameMover x = resting();
        x.moveClass(0, t("p/B"));
        x.moveMember(0, 0, t("n"));
        return x;
    }

    private static NameMover full() {
        NameMover x = resting();
        for (int c = 3; c < 8; c++) {
            x.declare(t("F" + c), -1, false);
        }
        return x;
    }

    private static NameMover withSixMembers() {
        NameMover x = resting();
        for (int k = 2; k < 6; k++) {
            x.member(0, t("k" + k), t("I"), false);
        }
        return x;
    }

    private static final Stage[] STAGES = {
        RefusedCallsTest::resting,
        RefusedCallsTest::withAMovingClass,
        RefusedCallsTest::withAMovingMember,
        RefusedCallsTest::withAProblem,
        RefusedCallsTest::full,
        RefusedCallsTest::withSixMembers,
    };

    private static final Stage[] MOVING = {
        RefusedCallsTest::withAMovingClass,
        RefusedCallsTest::withAMovingMember,
        RefusedCallsTest::withAProblem,
    };

    private static void refused(String what, Class<? extends RuntimeException> due, Stage stage, Refused call) {
        NameMover touched = stage.made();
        CHECKS.dueNotDone(what, due, () -> call.call(touched));
        CHECKS.compare(what + ", what is left unchanged", Observed.all(stage.made()), Observed.all(touched));
    }

    private static void refusedEverywhere(String what, Class<? extends RuntimeException> due, Refused call) {
        for (int stage = 0; stage < STAGES.length; stage++) {
            refused(what + " in state " + stage, due, STAGES[stage], call);
        }
    }

    private static void declareNoClassName() {
        CHECKS.sentence("Promise 2: IllegalArgumentException when name is no class name");
        for (String name : NO_CLASS_NAMES) {
            refusedEverywhere("declare " + name, Checks.ARGUMENT, x -> x.declare(t(name), 0, false));
            refusedEverywhere("without a superclass " + name, Checks.ARGUMENT, x -> x.declare(t(name), -1, true));
        }
        refusedEverywhere("before the superclass is looked at", Checks.ARGUMENT, x -> x.declare(t("a/"), 8, false));
        refusedEverywhere("and one below all", Checks.ARGUMENT, x -> x.declare(0L, -2, false));
    }

    private static void declareNoSuperclass() {
        CHECKS.sentence("Promise 2: IndexOutOfBoundsException when superclass is neither -1 (none) nor a class");
        for (int superclass : new int[] {-2, 8, 9, 255, Integer.MIN_VALUE, Integer.MAX_VALUE}) {
            refusedEverywhere("superclass " + superclass, Checks.INDEX, x -> x.declare(t("N"), superclass, false));
            refusedEverywhere("and the name is there", Checks.INDEX, x -> x.declare(t("p/A"), superclass, false));
        }
        refused("its own number", Checks.INDEX, RefusedCallsTest::resting, x -> x.declare(t("N"), 3, false));
        refused("its own number while it moves", Checks.INDEX, RefusedCallsTest::withAMovingClass,
                x -> x.declare(t("p/A"), 3, false));
        refused("the first class under itself", Checks.INDEX, NameMover::new, x -> x.declare(t("N"), 0, false));
    }

    private static void declareInAWrongState() {
        CHECKS.sentence("Promise 2: IllegalStateException when it is moving, there are 8 classes, or one has this name");
        for (Stage stage : MOVING) {
            refused("moving", Checks.STATE, stage, x -> x.declare(t("N"), -1, false));
            refused("moving, a new name", Checks.STATE, stage, x -> x.declare(t("p/X"), 2, false));
            refused("moving, and one has this name", Checks.STATE, stage, x -> x.declare(t("p/A"), 2, false));
        }
        refused("8 classes", Checks.STATE, RefusedCallsTest::full, x -> x.declare(t("N"), -1, false));
        refused("8 classes, under the last", Checks.STATE, RefusedCallsTest::full, x -> x.declare(t("N"), 7, true));
        for (String name : new String[] {"p/A", "p/B", "q/C"}) {
            refused("one has the name", Checks.STATE, RefusedCallsTest::resting, x -> x.declare(t(name), -1, false));
            refused("whatever else", Checks.STATE, RefusedCallsTest::resting, x -> x.declare(t(name), 1, true));
        }
    }

    private static void memberOfNoClass() {
        CHECKS.sentence("Promise 3: IndexOutOfBoundsException when there is no such class");
        for (int c : new int[] {-1, 8, 9, Integer.MIN_VALUE, Integer.MAX_VALUE}) {
            refusedEverywhere("class " + c, Checks.INDEX, x -> x.member(c, t("n"), t("I"), false));
            refusedEverywhere("and no name", Checks.INDEX, x -> x.member(c, t("1"), t("I"), false));
            refusedEverywhere("and no descriptor", Checks.INDEX, x -> x.member(c, t("n"), t("V"), false));
        }
        refused("class 3 of 3", Checks.INDEX, RefusedCallsTest::resting, x -> x.member(3, t("n"), t("I"), true));
        refused("class 0 of none", Checks.INDEX, NameMover::new, x -> x.member(0, t("n"), t("I"), true));
    }

    private static void memberWithoutNameOrDescriptor() {
        CHECKS.sentence("Promise 3: IllegalArgumentException when name is no identifier or descriptor is none");
        for (String name : NO_IDENTIFIERS) {
            refusedEverywhere("name " + name, Checks.ARGUMENT, x -> x.member(0, t(name), t("I"), false));
            refusedEverywhere("both", Checks.ARGUMENT, x -> x.member(0, t(name), t("V"), false));
        }
        for (String descriptor : NO_DESCRIPTORS) {
            // Where there are 8 classes, 3 is one of them.
            String wrong = descriptor.equals("3") ? "9" : descriptor;
            refusedEverywhere("descriptor " + wrong, Checks.ARGUMENT, x -> x.member(0, t("n"), t(wrong), false));
            refused("descriptor " + descriptor, Checks.ARGUMENT, RefusedCallsTest::resting,
                    x -> x.member(2, t("n"), t(descriptor), true));
        }
    }

    private static void memberInAWrongState() {
        CHECKS.sentence("Promise 3: IllegalStateException when it is moving, the class has 6 members,"
                + " or one has this name and descriptor");
        for (Stage stage : MOVING) {
            refused("moving", Checks.STATE, stage, x -> x.member(2, t("n"), t("I"), false));
            refused("moving, and one is the same", Checks.STATE, stage, x -> x.member(0, t("f"), t("I"), false));
        }
        refused("6 members", Checks.STATE, RefusedCallsTest::withSixMembers, x -> x.member(0, t("n"), t("I"), false));
        refused("6 members, one the same", Checks.STATE, RefusedCallsTest::withSixMembers,
                x -> x.member(0, t("k5"), t("I"), false));
        refused("the same", Checks.STATE, RefusedCallsTest::resting, x -> x.member(0, t("f"), t("I"), false));
        refused("the same but fixed", Checks.STATE, RefusedCallsTest::resting, x -> x.member(0, t("m"), t("()V"), true));
        refused("the same but not fixed", Checks.STATE, RefusedCallsTest::resting, x -> x.member(2, t("g"), t("[0"), false));
    }

    private static void moveClassOfNoClass() {
        CHECKS.sentence("Promise 4: IndexOutOfBoundsException when there is no such class");
        for (int c : new int[] {-1, 8, 9, Integer.MIN_VALUE, Integer.MAX_VALUE}) {
            refusedEverywhere("class " + c, Checks.INDEX, x -> x.moveClass(c, t("N")));
            refusedEverywhere("and no name", Checks.INDEX, x -> x.moveClass(c, t("a/")));
        }
        refused("class 3 of 3", Checks.INDEX, RefusedCallsTest::resting, x -> x.moveClass(3, t("N")));
        refused("class 0 of none", Checks.INDEX, NameMover::new, x -> x.moveClass(0, t("N")));
    }

    private static void moveClassToNoClassName() {
        CHECKS.sentence("Promise 4: IllegalArgumentException when name is no class name");
        for (String name : NO_CLASS_NAMES) {
            refusedEverywhere("to " + name, Checks.ARGUMENT, x -> x.moveClass(0, t(name)));
            refusedEverywhere("the library class to " + name, Checks.ARGUMENT, x -> x.moveClass(2, t(name)));
        }
    }

    private static void movePackageOfNoPackage() {
        CHECKS.sentence("Promise 5: IllegalArgumentException when from or to is neither a class name nor the empty text");
        for (String name : NO_CLASS_NAMES) {
            if (!name.isEmpty()) {
                refusedEverywhere("from " + name, Checks.ARGUMENT, x -> x.movePackage(t(name), t("s")));
                refusedEverywhere("from it to none", Checks.ARGUMENT, x -> x.movePackage(t(name), 0L));
                refusedEverywhere("to " + name, Checks.ARGUMENT, x -> x.movePackage(t("p"), t(name)));
                refusedEverywhere("nothing to " + name, Checks.ARGUMENT, x -> x.movePackage(t("z"), t(name)));
                refusedEverywhere("both", Checks.ARGUMENT, x -> x.movePackage(t(name), t(name)));
            }
        }
    }

    private static void movePackageThatIsTooLong() {
        CHECKS.sentence("Promise 5: .. or one of the new names would be longer than 8 characters (then none is set)");
        refusedEverywhere("all too long", Checks.ARGUMENT, x -> x.movePackage(t("p"), t("abcdefg")));
        refusedEverywhere("a package of 8", Checks.ARGUMENT, x -> x.movePackage(t("p"), t("abcdefgh")));
        for (int last = 0; last < 3; last++) {
            int tooLong = last;
            Stage stage = () -> {
                NameMover x = new NameMover();
                for (int c = 0; c < 3; c++) {
                    x.declare(t("p/" + (c == tooLong ? "Long" : "A" + c)), -1, false);
                }
                x.moveClass(1, t("p/N"));
                return x;
            };
            refused("only class " + last, Checks.ARGUMENT, stage, x -> x.movePackage(t("p"), t("abcd")));
        }
    }

    private static void moveMemberOfNoMember() {
        CHECKS.sentence("Promise 6: IndexOutOfBoundsException when there is no such member");
        for (int c : new int[] {-1, 8, 9, Integer.MIN_VALUE, Integer.MAX_VALUE}) {
            refusedEverywhere("class " + c, Checks.INDEX, x -> x.moveMember(c, 0, t("z")));
            refusedEverywhere("and no name", Checks.INDEX, x -> x.moveMember(c, 0, t("1")));
        }
        for (int k : new int[] {-1, 6, 7, 8, 16, Integer.MIN_VALUE, Integer.MAX_VALUE}) {
            refusedEverywhere("member " + k, Checks.INDEX, x -> x.moveMember(0, k, t("z")));
            refusedEverywhere("and no name", Checks.INDEX, x -> x.moveMember(0, k, 0L));
        }
        refused("member 2 of 2", Checks.INDEX, RefusedCallsTest::resting, x -> x.moveMember(0, 2, t("z")));
        refused("member -1 of class 1", Checks.INDEX, RefusedCallsTest::resting, x -> x.moveMember(1, -1, t("z")));
        refused("member 8 of class 0", Checks.INDEX, RefusedCallsTest::resting, x -> x.moveMember(0, 8, t("z")));
        refused("class 3 of 3", Checks.INDEX, RefusedCallsTest::resting, x -> x.moveMember(3, 0, t("z")));
    }

    private static void moveMemberToNoIdentifier() {
        CHECKS.sentence("Promise 6: IllegalArgumentException when name is no identifier");
        for (String name : NO_IDENTIFIERS) {
            refusedEverywhere("to " + name, Checks.ARGUMENT, x -> x.moveMember(1, 0, t(name)));
            refusedEverywhere("the fixed one to " + name, Checks.ARGUMENT, x -> x.moveMember(2, 0, t(name)));
        }
    }

    private static Stage moved(Refused move) {
        return () -> {
            NameMover x = resting();
            x.moveMember(0, 1, t("other"));
            move.call(x);
            return x;
        };
    }

    private static void applyWithAProblem() {
        CHECKS.sentence("Promise 8: IllegalStateException when there is a problem");
        refused("kind 1", Checks.STATE, moved(x -> x.moveClass(2, t("q/D"))), x -> x.apply());
        refused("kind 2", Checks.STATE, moved(x -> x.moveMember(2, 0, t("h"))), x -> x.apply());
        refused("kind 3", Checks.STATE, moved(x -> x.moveClass(1, t("p/A"))), x -> x.apply());
        refused("kind 4, they part", Checks.STATE, moved(x -> x.moveClass(1, t("B"))), x -> x.apply());
        refused("kind 4, they meet", Checks.STATE, moved(x -> x.movePackage(t("p"), t("q"))), x -> x.apply());
        refused("kind 5", Checks.STATE, () -> {
            NameMover x = withSixMembers();
            x.moveClass(0, t("p/X"));
            x.moveMember(0, 1, t("k5"));
            return x;
        }, x -> x.apply());
    }

    private static void namesOfNothing() {
        CHECKS.sentence("Promises 11 and 12: IndexOutOfBoundsException when there is no such class .. no such member");
        for (int c : new int[] {-1, 8, 9, Integer.MIN_VALUE, Integer.MAX_VALUE}) {
            refusedEverywhere("className " + c, Checks.INDEX, x -> x.className(c, false));
            refusedEverywhere("new className " + c, Checks.INDEX, x -> x.className(c, true));
            refusedEverywhere("memberName of class " + c, Checks.INDEX, x -> x.memberName(c, 0, false));
            refusedEverywhere("new memberName of class " + c, Checks.INDEX, x -> x.memberName(c, 0, true));
        }
        for (int k : new int[] {-1, 6, 7, 8, 16, Integer.MIN_VALUE, Integer.MAX_VALUE}) {
            refusedEverywhere("memberName " + k, Checks.INDEX, x -> x.memberName(0, k, false));
            refusedEverywhere("new memberName " + k, Checks.INDEX, x -> x.memberName(0, k, true));
        }
        refused("class 3 of 3", Checks.INDEX, RefusedCallsTest::resting, x -> x.className(3, false));
        refused("member 0 of class 3 of 3", Checks.INDEX, RefusedCallsTest::resting, x -> x.memberName(3, 0, false));
        refused("member 2 of 2", Checks.INDEX, RefusedCallsTest::resting, x -> x.memberName(0, 2, false));
        refused("member 8 of class 0", Checks.INDEX, RefusedCallsTest::resting, x -> x.memberName(0, 8, false));
        refused("member -8 of class 1", Checks.INDEX, RefusedCallsTest::resting, x -> x.memberName(1, -8, false));
    }

    private static void findInNoClass() {
        CHECKS.sentence("Promise 13: IndexOutOfBoundsException when there is no such class");
        for (int c : new int[] {-1, 8, 9, Integer.MIN_VALUE, Integer.MAX_VALUE}) {
            refusedEverywhere("class " + c, Checks.INDEX, x -> x.find(c, t("m"), t("()V")));
            refusedEverywhere("and no such member anywhere", Checks.INDEX, x -> x.find(c, 0L, -1L));
        }
        refused("class 3 of 3", Checks.INDEX, RefusedCallsTest::resting, x -> x.find(3, t("m"), t("()V")));
    }

    private static void findNothing() {
        CHECKS.sentence("Promise 13: NoSuchElementException when neither it nor an ancestor has such a member");
        refusedEverywhere("another name", Checks.ELEMENT, x -> x.find(1, t("none"), t("()V")));
        refusedEverywhere("another descriptor", Checks.ELEMENT, x -> x.find(1, t("m"), t("()I")));
        refusedEverywhere("a class's under it", Checks.ELEMENT, x -> x.find(1, t("g"), t("[0")));
        refusedEverywhere("texts that are no names", Checks.ELEMENT, x -> x.find(2, -1L, 0L));
        refusedEverywhere("a written descriptor", Checks.ELEMENT, x -> x.find(2, t("g"), t("[Lp/A;")));
        refused("a new name", Checks.ELEMENT, RefusedCallsTest::withAMovingMember, x -> x.find(0, t("n"), t("I")));
    }

    private static void writeNoClass() {
        CHECKS.sentence("Promise 14: IndexOutOfBoundsException when there is no such class");
        for (int c : NO_CLASSES) {
            refused("class " + c, Checks.INDEX, RefusedCallsTest::resting, x -> x.write(c));
            refused("class " + c + " while it moves", Checks.INDEX, RefusedCallsTest::withAProblem, x -> x.write(c));
        }
        refused("class 8 of 8", Checks.INDEX, RefusedCallsTest::full, x -> x.write(8));
        refused("class 0 of none", Checks.INDEX, NameMover::new, x -> x.write(0));
    }

    /** The file in the buffer of each stage. */
    private static final String FILE = "202 4 'r/B' 'p/A' 'm' '()V' 1 2 0 1 3 4 0";

    private static int fileLength() {
        return TestFiles.file(FILE).length;
    }

    private static void byteAtNowhere() {
        CHECKS.sentence("Promise 15: IndexOutOfBoundsException when there is none");
        for (int i : new int[] {-1, fileLength(), 511, 512, 513, Integer.MIN_VALUE, Integer.MAX_VALUE}) {
            refusedEverywhere("byte " + i, Checks.INDEX, x -> x.byteAt(i));
            refused("byte " + i + " of none", Checks.INDEX, NameMover::new, x -> x.byteAt(i));
        }
        refused("byte 0 of none", Checks.INDEX, NameMover::new, x -> x.byteAt(0));
        CHECKS.due("the last byte", 0, () -> resting().byteAt(fileLength() - 1));
    }

    private static void pokeNowhere() {
        CHECKS.sentence("Promise 16: IndexOutOfBoundsException when there is none");
        for (int i : new int[] {-1, fileLength(), 511, 512, 513, Integer.MIN_VALUE, Integer.MAX_VALUE}) {
            refusedEverywhere("byte " + i, Checks.INDEX, x -> x.poke(i, 1));
            refusedEverywhere("and no byte", Checks.INDEX, x -> x.poke(i, 256));
            refusedEverywhere("and a byte below 0", Checks.INDEX, x -> x.poke(i, -1));
        }
        refused("byte 0 of none", Checks.INDEX, NameMover::new, x -> x.poke(0, -1));
    }

    private static void pokeNoByte() {
        CHECKS.sentence("Promise 16: IllegalArgumentException when b is not 0 .. 255");
        for (int b : new int[] {-1, 256, -128, 257, 512 + 65, Integer.MIN_VALUE, Integer.MAX_VALUE}) {
            refusedEverywhere("poke " + b, Checks.ARGUMENT, x -> x.poke(3, b));
            refusedEverywhere("poke the last byte " + b, Checks.ARGUMENT, x -> x.poke(fileLength() - 1, b));
        }
    }

    private static void loadInAWrongState() {
        CHECKS.sentence("Promise 17: IllegalStateException when it is moving or there are 8 classes");
        CHECKS.due("the file can be loaded else", 3, () -> resting().load());
        for (Stage stage : MOVING) {
            refused("moving", Checks.STATE, stage, x -> x.load());
            refused("moving, and the bytes are no file", Checks.STATE, poked(stage, 0, 0), x -> x.load());
            refused("moving, and the name is there", Checks.STATE, poked(stage, 3, 'p'), x -> x.load());
        }
        refused("8 classes", Checks.STATE, RefusedCallsTest::full, x -> x.load());
        refused("8 classes, and no file", Checks.STATE, poked(RefusedCallsTest::full, 0, 0), x -> x.load());
        refused("moving, and the buffer is empty", Checks.STATE, () -> {
            NameMover x = new NameMover();
            x.declare(t("A"), -1, false);
            x.moveClass(0, t("B"));
            return x;
        }, x -> x.load());
    }

    private static Stage poked(Stage stage, int i, int b) {
        return () -> {
            NameMover x = stage.made();
            x.poke(i, b);
            return x;
        };
    }

    private static void refusedFile(String what, String told) {
        refused(what, Checks.ARGUMENT, () -> new TestFiles(CHECKS).withBuffer(told), x -> x.load());
    }

    /** The class's only member is f with this descriptor. */
    private static void refusedDescriptor(String what, String descriptor) {
        refusedFile(what, "202 3 'C' 'f' '" + descriptor + "' 1 0 0 1 2 3 0");
    }

    private static void loadNoFile() {
        CHECKS.sentence("Promise 17: IllegalArgumentException when no class can be made so: the bytes are no file");
        refused("an empty buffer", Checks.ARGUMENT, NameMover::new, x -> x.load());
        for (int b : new int[] {0, 201, 203, 255}) {
            refused("mark " + b, Checks.ARGUMENT, poked(RefusedCallsTest::resting, 0, b), x -> x.load());
        }
        refusedFile("a byte too many", "202 1 'C' 1 0 0 0 0");
        refusedFile("a byte too few", "202 2 'C' 'A' 1 2 0");
        refusedFile("a member's byte too few", "202 3 'C' 'f' 'I' 1 0 0 1 2 3");
        refusedFile("a pool too great", "202 2 'C' 1 0 0 0");
        refusedFile("a pool too small", "202 1 'C' 'A' 1 2 0 0");
        refusedFile("no pool", "202 0 1 'C' 1 0 0 0");
        refusedFile("the greatest pool", "202 255 'C' 1 0 0 0");
        refusedFile("a text that goes on behind the end", "202 1 6 67 1 0 0 0");
        refusedFile("the longest text", "202 1 255 67 1 0 0 0");
        refusedFile("a text that no one uses", "202 2 'C' 'A' 1 0 0 0");
        refusedFile("a text twice", "202 3 'I' 'f' 'I' 1 0 0 1 2 3 0");
        refusedFile("texts in another order", "202 3 'C' 'I' 'f' 1 0 0 1 3 2 0");
        refusedFile("name 0", "202 1 'C' 0 0 0 0");
        refusedFile("name 2 of 1", "202 1 'C' 2 0 0 0");
        refusedFile("superclass 3 of 2", "202 2 'C' 'A' 1 3 0 0");
        refusedFile("library 2", "202 1 'C' 1 0 2 0");
        refusedFile("library 255", "202 1 'C' 1 0 255 0");
        refusedFile("fixed 2", "202 3 'C' 'f' 'I' 1 0 0 1 2 3 2");
        refusedFile("member's name 0", "202 3 'C' 'f' 'I' 1 0 0 1 0 3 0");
        refusedFile("member's name 4 of 3", "202 3 'C' 'f' 'I' 1 0 0 1 4 3 0");
        refusedFile("descriptor 0", "202 3 'C' 'f' 'I' 1 0 0 1 2 0 0");
        refusedFile("descriptor 4 of 3", "202 3 'C' 'f' 'I' 1 0 0 1 2 4 0");
        refusedFile("a member more than there are", "202 3 'C' 'f' 'I' 1 0 0 2 2 3 0");
        refusedFile("a member less than there are", "202 3 'C' 'f' 'I' 1 0 0 0 2 3 0");
        refusedFile("seven members", "202 4 'C' 'f' 'I' 'g' 1 0 0 7 2 3 0 4 3 0 2 3 0 4 3 0 2 3 0 4 3 0 2 3 0");
        loadSevenMembers();
    }

    /** Seven that differ, so that nothing but their number is wrong. */
    private static void loadSevenMembers() {
        int[] seven = TestFiles.file("202 10 'C' 'a' 'I' 'b' 'c' 'd' 'e' 'f' 'g' 'J'"
                + " 1 0 0 7 2 3 0 4 3 0 5 3 0 6 3 0 7 3 0 8 3 0 9 10 0");
        Stage stage = () -> {
            NameMover x = new NameMover();
            x.declare(t("Q"), -1, false);
            for (int k = 0; k < 6; k++) {
                x.member(0, t("m" + k), t(k == 5 ? "J" : "I"), false);
            }
            x.moveMember(0, 5, t("m"));
            x.apply();
            CHECKS.due("a file as long as that of seven", seven.length, () -> x.write(0));
            TestFiles.pokeAll(x, seven);
            return x;
        };
        refused("seven members that differ", Checks.ARGUMENT, stage, x -> x.load());
    }

    private static void loadNoName() {
        CHECKS.sentence("Promise 17: .. a name or descriptor is none: a name");
        for (String name : new String[] {"", "1", "C/", "/C", "C//D", "C-", "Cccccccccc", "CCCCCCCCC"}) {
            refusedFile("a class's name " + name, "202 2 '" + name + "' 'A' 1 2 0 0");
        }
        for (String name : new String[] {"", "1", "f/g", "f-", "fffffffff"}) {
            refusedFile("a member's name " + name, "202 3 'C' '" + name + "' 'I' 1 0 0 1 2 3 0");
        }
        refusedFile("a zero in a class's name", "202 1 2 67 0 1 0 0 0");
        refusedFile("a zero in front of it", "202 1 2 0 67 1 0 0 0");
        refusedFile("a zero in a member's name", "202 3 'C' 2 102 0 'I' 1 0 0 1 2 3 0");
    }

    private static void loadNoDescriptor() {
        CHECKS.sentence("Promise 17: .. a name or descriptor is none: a descriptor");
        for (String descriptor : new String[] {"V", "0", "[0", "(0)V", "[", "II", "(", "()", "()VV", "(V)V", "LA", "A;", "L;"}) {
            refusedDescriptor("descriptor " + descriptor, descriptor);
        }
        refusedDescriptor("nine characters", "[[[[[[[[I");
        refusedDescriptor("nine characters with a digit", "[[[[[[[[LA;");
        refusedFile("an empty descriptor", "202 3 'C' 'f' '' 1 0 0 1 2 3 0");
        refusedFile("a zero behind it", "202 3 'C' 'f' 2 73 0 1 0 0 1 2 3 0");
        refusedFile("the second member's", "202 5 'C' 'f' 'I' 'g' 'V' 1 0 0 2 2 3 0 4 5 0");
    }

    private static void loadTheSameMembers() {
        CHECKS.sentence("Promise 17: .. two members are the same");
        refusedFile("two", "202 3 'C' 'f' 'I' 1 0 0 2 2 3 0 2 3 0");
        refusedFile("two, one of them fixed", "202 3 'C' 'f' 'I' 1 0 0 2 2 3 0 2 3 1");
        refusedFile("the first and the third", "202 4 'C' 'f' 'I' 'g' 1 0 0 3 2 3 0 4 3 0 2 3 0");
        refusedFile("two methods", "202 3 'C' 'f' '(LC;)V' 1 0 0 2 2 3 0 2 3 0");
    }

    private static void loadWhatIsNotThere() {
        CHECKS.sentence("Promise 17: .. a class that is named (other than the new one itself, in its descriptors) is not there");
        refusedFile("a superclass", "202 2 'C' 'D' 1 2 0 0");
        refusedFile("a superclass that is no name", "202 2 'C' 'A/' 1 2 0 0");
        refusedFile("the new one itself as superclass", "202 1 'C' 1 1 0 0");
        refusedDescriptor("a field's", "LD;");
        refusedDescriptor("a method's first", "(LD;LA;)V");
        refusedDescriptor("a method's result", "(LA;)[LD;");
        refusedDescriptor("another's last identifier", "LB;");
        refusedDescriptor("another's package", "La;");
        refusedDescriptor("a longer name than another's", "La/B2;");
        NameMover x = new TestFiles(CHECKS).withBuffer("202 3 'C' 'f' 'LA;' 1 0 0 1 2 3 0");
        x.moveClass(0, t("E"));
        x.apply();
        CHECKS.dueThrow("a name that has been changed", Checks.ARGUMENT, () -> x.load());
        CHECKS.due("no class of it", 3, () -> x.classes());
    }

    private static void loadWhatIsThere() {
        CHECKS.sentence("Promise 17: .. or a class has the new one's name already");
        refusedFile("the first class's name", "202 1 'A' 1 0 0 0");
        refusedFile("another's name", "202 1 'a/B' 1 0 0 0");
        refusedFile("its superclass's name", "202 1 'A' 1 1 0 0");
        refused("the class that was written", Checks.ARGUMENT, poked(RefusedCallsTest::resting, 3, 'p'), x -> x.load());
        refused("the class that was loaded", Checks.ARGUMENT, () -> {
            NameMover x = resting();
            x.load();
            return x;
        }, x -> x.load());
    }
}
