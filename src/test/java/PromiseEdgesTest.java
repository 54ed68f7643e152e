/** Promises 1 to 17: each sentence that names an edge without an exception has a test of its own. */
public final class PromiseEdgesTest {
    private static final Checks CHECKS = new Checks();
    private static final TestFiles FILES = new TestFiles(CHECKS);

    private static long t(String characters) {
        return Checks.text(characters);
    }

    public static void main(String[] args) {
        CHECKS.all(
                PromiseEdgesTest::noClasses,
                PromiseEdgesTest::aNewClassWithoutMembers,
                PromiseEdgesTest::noSuperclass,
                PromiseEdgesTest::theNumberOfAMember,
                PromiseEdgesTest::itsOwnNameAgain,
                PromiseEdgesTest::anyClassMayBeMoved,
                PromiseEdgesTest::noLibraryClassMovesWithItsPackage,
                PromiseEdgesTest::theNameNotTheNewOne,
                PromiseEdgesTest::whateverTheNewNameWas,
                PromiseEdgesTest::howManyClasses,
                PromiseEdgesTest::theEmptyPackage,
                PromiseEdgesTest::justNotTooLong,
                PromiseEdgesTest::membersOfLibraryClasses,
                PromiseEdgesTest::whateverNewNameTheyHad,
                PromiseEdgesTest::howManyMembers,
                PromiseEdgesTest::howManyNamesChange,
                PromiseEdgesTest::perhapsNone,
                PromiseEdgesTest::howManyWereNot,
                PromiseEdgesTest::everyNameAtOnce,
                PromiseEdgesTest::howManyClassesThereAre,
                PromiseEdgesTest::nameOrNewName,
                PromiseEdgesTest::foundInTheNearest,
                PromiseEdgesTest::foundByNameNotNewName,
                PromiseEdgesTest::foundByAnyTexts,
                PromiseEdgesTest::writtenWithNames,
                PromiseEdgesTest::theBufferBecomesTheFile,
                PromiseEdgesTest::theFirstAndTheLastByte,
                PromiseEdgesTest::theLeastAndTheGreatestByte,
                PromiseEdgesTest::theBufferStays,
                PromiseEdgesTest::theNewOneItself);
    }

    /** Class 1 under class 0, class 2 under class 1, each with method m and field f. */
    private static NameMover threeClasses() {
        NameMover x = new NameMover();
        for (int c = 0; c < 3; c++) {
            x.declare(t("p/C" + c), c - 1, false);
            x.member(c, t("m"), t("()V"), false);
            x.member(c, t("f"), t("I"), false);
        }
        return x;
    }

    private static void noClasses() {
        CHECKS.sentence("NameMover(): No classes");
        NameMover x = new NameMover();
        CHECKS.due("classes", 0, () -> x.classes());
        CHECKS.dueThrow("className", Checks.INDEX, () -> x.className(0, false));
        CHECKS.dueThrow("memberName", Checks.INDEX, () -> x.memberName(0, 0, false));
        CHECKS.dueThrow("find", Checks.INDEX, () -> x.find(0, t("m"), t("()V")));
        CHECKS.dueThrow("write", Checks.INDEX, () -> x.write(0));
        CHECKS.dueThrow("member", Checks.INDEX, () -> x.member(0, t("m"), t("()V"), false));
        CHECKS.dueNotDone("moveClass", Checks.INDEX, () -> x.moveClass(0, t("A")));
        CHECKS.dueThrow("moveMember", Checks.INDEX, () -> x.moveMember(0, 0, t("m")));
        CHECKS.dueThrow("declare under class 0", Checks.INDEX, () -> x.declare(t("A"), 0, false));
        CHECKS.due("movePackage", 0, () -> x.movePackage(0L, t("a")));
        CHECKS.due("problem", 0, () -> x.problem());
        CHECKS.due("apply", 0, () -> x.apply());
        CHECKS.due("cancel", 0, () -> x.cancel());
        CHECKS.due("the first class", 0, () -> x.declare(t("A"), -1, false));
        CHECKS.due("no class of another object", 0, () -> new NameMover().classes());
    }

    private static void aNewClassWithoutMembers() {
        CHECKS.sentence("A new class, without members: its number");
        NameMover x = threeClasses();
        CHECKS.due("its number", 3, () -> x.declare(t("p/C3"), 2, true));
        CHECKS.dueThrow("its first member", Checks.INDEX, () -> x.memberName(3, 0, false));
        FILES.dueFile(x, "its file", 3, "202 2 'p/C3' 'p/C2' 1 2 1 0");
    }

    private static void noSuperclass() {
        CHECKS.sentence("superclass is neither -1 (none) nor a class");
        NameMover x = threeClasses();
        CHECKS.due("without a superclass", 3, () -> x.declare(t("A"), -1, false));
        CHECKS.dueThrow("it inherits nothing", Checks.ELEMENT, () -> x.find(3, t("m"), t("()V")));
        FILES.dueFile(x, "its file", 3, "202 1 'A' 1 0 0 0");
        CHECKS.due("under the first class", 4, () -> x.declare(t("B"), 0, false));
        CHECKS.due("it inherits", 0, () -> x.find(4, t("m"), t("()V")));
        CHECKS.due("under the last class", 5, () -> x.declare(t("C"), 4, false));
        FILES.dueFile(x, "its file", 5, "202 2 'C' 'B' 1 2 0 0");
    }

    private static void theNumberOfAMember() {
        CHECKS.sentence("A new member of class c: its number in it");
        NameMover x = threeClasses();
        CHECKS.due("of class 1", 2, () -> x.member(1, t("g"), t("J"), false));
        CHECKS.due("of class 0", 2, () -> x.member(0, t("g"), t("J"), true));
        CHECKS.due("of class 1 again", 3, () -> x.member(1, t("h"), t("J"), false));
        CHECKS.dueText("the member of class 1", "h", () -> x.memberName(1, 3, false));
    }

    private static void itsOwnNameAgain() {
        CHECKS.sentence("Sets the new name of class c (its own name again: it does not move by it)");
        NameMover x = threeClasses();
        x.moveClass(2, t("p/C2"));
        CHECKS.due("its own name at once", 2, () -> x.member(0, t("a"), t("I"), false));
        x.moveClass(2, t("p/X"));
        CHECKS.dueThrow("another name", Checks.STATE, () -> x.member(0, t("b"), t("I"), false));
        x.moveClass(2, t("p/C2"));
        CHECKS.dueText("its own name again", "p/C2", () -> x.className(2, true));
        CHECKS.due("it does not move", 3, () -> x.member(0, t("b"), t("I"), false));
        CHECKS.due("no name changes", 0, () -> x.apply());
    }

    private static void anyClassMayBeMoved() {
        CHECKS.sentence("Sets the new name of class c");
        NameMover x = threeClasses();
        x.declare(t("L"), -1, true);
        CHECKS.dueDone("a library class", () -> x.moveClass(3, t("K")));
        CHECKS.dueText("its new name", "K", () -> x.className(3, true));
        CHECKS.dueDone("another's name", () -> x.moveClass(0, t("p/C1")));
        CHECKS.dueText("both have it", "p/C1", () -> x.className(0, true));
        CHECKS.dueText("the other stays", "p/C1", () -> x.className(1, true));
        CHECKS.dueText("its name stays", "p/C0", () -> x.className(0, false));
        CHECKS.dueDone("again", () -> x.moveClass(0, t("abcdefgh")));
        CHECKS.dueText("the last one counts", "abcdefgh", () -> x.className(0, true));
    }

    private static void noLibraryClassMovesWithItsPackage() {
        CHECKS.sentence("The new name of each class that is no library class");
        NameMover x = new NameMover();
        x.declare(t("p/A"), -1, true);
        x.declare(t("p/B"), -1, false);
        x.declare(t("p/Long22"), -1, true);
        CHECKS.due("one class", 1, () -> x.movePackage(t("p"), t("abcdef")));
        CHECKS.dueText("the library class", "p/A", () -> x.className(0, true));
        CHECKS.dueText("the other", "abcdef/B", () -> x.className(1, true));
        CHECKS.dueText("a library class that would be too long", "p/Long22", () -> x.className(2, true));
        x.moveClass(0, t("q/A"));
        x.movePackage(t("p"), t("r"));
        CHECKS.dueText("a library class's new name stays as it was", "q/A", () -> x.className(0, true));
    }

    private static void theNameNotTheNewOne() {
        CHECKS.sentence("whose name (not its new one) has the package from");
        NameMover x = threeClasses();
        x.moveClass(1, t("q/D"));
        CHECKS.due("the package of a new name", 0, () -> x.movePackage(t("q"), t("r")));
        CHECKS.dueText("it stays", "q/D", () -> x.className(1, true));
        CHECKS.due("the package of the names", 3, () -> x.movePackage(t("p"), t("r")));
        x.apply();
        CHECKS.due("the old package is empty", 0, () -> x.movePackage(t("p"), t("s")));
        CHECKS.due("the new one is not", 3, () -> x.movePackage(t("r"), t("s")));
    }

    private static void whateverTheNewNameWas() {
        CHECKS.sentence("becomes its name with the package to in its stead, whatever the new name was");
        NameMover x = threeClasses();
        x.moveClass(1, t("q/Other"));
        x.moveClass(2, t("Another8"));
        CHECKS.due("all three", 3, () -> x.movePackage(t("p"), t("r")));
        CHECKS.dueText("its name in it, not its new one", "r/C1", () -> x.className(1, true));
        CHECKS.dueText("a new name of eight characters", "r/C2", () -> x.className(2, true));
        CHECKS.due("to their own package", 3, () -> x.movePackage(t("p"), t("p")));
        CHECKS.due("no new name is left", 0, () -> x.cancel());
    }

    private static void howManyClasses() {
        CHECKS.sentence("how many classes these are");
        NameMover x = new NameMover();
        for (int c = 0; c < 8; c++) {
            int number = c;
            CHECKS.due(c + " classes", c, () -> x.movePackage(t("p"), t("p")));
            x.declare(t("p/C" + number), -1, false);
        }
        CHECKS.due("8 classes", 8, () -> x.movePackage(t("p"), t("q")));
        CHECKS.due("none", 0, () -> x.movePackage(t("none"), t("abcdefgh")));
        CHECKS.due("8 names", 8, () -> x.cancel());
    }

    private static void theEmptyPackage() {
        CHECKS.sentence("from or to is neither a class name nor the empty text");
        NameMover x = new NameMover();
        x.declare(t("A"), -1, false);
        x.declare(t("p/B"), -1, false);
        CHECKS.due("from the empty text", 1, () -> x.movePackage(0L, t("p/q/r")));
        CHECKS.dueText("class A", "p/q/r/A", () -> x.className(0, true));
        CHECKS.dueText("class p/B", "p/B", () -> x.className(1, true));
        CHECKS.due("to the empty text", 1, () -> x.movePackage(t("p"), 0L));
        CHECKS.dueText("class p/B", "B", () -> x.className(1, true));
        CHECKS.due("from the empty text to it", 1, () -> x.movePackage(0L, 0L));
        CHECKS.dueText("class A", "A", () -> x.className(0, true));
    }

    private static void justNotTooLong() {
        CHECKS.sentence("one of the new names would be longer than 8 characters");
        String[] names = {"A", "Bb", "Ccc", "Dddd", "Eeeee", "Ffffff"};
        for (int length = 1; length <= 6; length++) {
            NameMover x = new NameMover();
            String name = names[length - 1];
            x.declare(t(name), -1, false);
            String longest = "abcdefg".substring(0, 7 - length);
            String tooLong = "abcdefg".substring(0, 8 - length);
            CHECKS.due("8 characters", 1, () -> x.movePackage(0L, t(longest)));
            CHECKS.dueText("its new name", longest + "/" + name, () -> x.className(0, true));
            CHECKS.dueThrow("9 characters", Checks.ARGUMENT, () -> x.movePackage(0L, t(tooLong)));
            CHECKS.dueText("its new name stays", longest + "/" + name, () -> x.className(0, true));
        }
    }

    private static void membersOfLibraryClasses() {
        CHECKS.sentence("and of all others in its family (in library classes, too");
        NameMover x = new NameMover();
        x.declare(t("L"), -1, true);
        x.declare(t("B"), 0, false);
        x.member(0, t("m"), t("()V"), false);
        x.member(1, t("m"), t("()V"), false);
        CHECKS.due("from the class under it", 2, () -> x.moveMember(1, 0, t("n")));
        CHECKS.dueText("the library class's", "n", () -> x.memberName(0, 0, true));
        CHECKS.due("from the library class", 2, () -> x.moveMember(0, 0, t("o")));
        CHECKS.dueText("the other's", "o", () -> x.memberName(1, 0, true));
    }

    private static void whateverNewNameTheyHad() {
        CHECKS.sentence("whatever new name they had");
        NameMover x = threeClasses();
        x.moveMember(0, 0, t("n"));
        CHECKS.due("another new name", 3, () -> x.moveMember(2, 0, t("o")));
        for (int c = 0; c < 3; c++) {
            int number = c;
            CHECKS.dueText("class " + c, "o", () -> x.memberName(number, 0, true));
        }
        CHECKS.due("their own name", 3, () -> x.moveMember(1, 0, t("m")));
        CHECKS.due("no new name is left", 0, () -> x.cancel());
    }

    private static void howManyMembers() {
        CHECKS.sentence("how many members the family has");
        NameMover x = threeClasses();
        CHECKS.due("three", 3, () -> x.moveMember(0, 0, t("m")));
        CHECKS.due("a field", 1, () -> x.moveMember(0, 1, t("f")));
        NameMover y = new NameMover();
        for (int c = 0; c < 8; c++) {
            y.declare(t("C" + c), c == 0 ? -1 : 0, false);
            y.member(c, t("m"), t("()V"), false);
        }
        CHECKS.due("eight under one", 8, () -> y.moveMember(7, 0, t("n")));
    }

    private static void howManyNamesChange() {
        CHECKS.sentence("All names (of classes and members) become the new ones: how many names change");
        NameMover x = threeClasses();
        x.moveClass(0, t("p/X"));
        x.moveClass(1, t("p/C1"));
        x.moveMember(2, 0, t("n"));
        x.moveMember(1, 1, t("f"));
        CHECKS.due("one class and three members", 4, () -> x.apply());
        CHECKS.dueText("the class", "p/X", () -> x.className(0, false));
        CHECKS.dueText("a member", "n", () -> x.memberName(0, 0, false));
        CHECKS.dueText("the class's new name", "p/X", () -> x.className(0, true));
        CHECKS.dueText("a member's new name", "n", () -> x.memberName(0, 0, true));
        CHECKS.due("found by the new name", 8, () -> x.find(1, t("n"), t("()V")));
        CHECKS.dueThrow("not by the old one", Checks.ELEMENT, () -> x.find(1, t("m"), t("()V")));
        CHECKS.due("the old class name is free", 3, () -> x.declare(t("p/C0"), -1, false));
        CHECKS.dueThrow("the new one is not", Checks.STATE, () -> x.declare(t("p/X"), -1, false));
    }

    private static void perhapsNone() {
        CHECKS.sentence("how many names change (perhaps none)");
        NameMover x = threeClasses();
        CHECKS.due("nothing moves", 0, () -> x.apply());
        x.moveClass(0, t("p/X"));
        x.apply();
        CHECKS.due("a second time", 0, () -> x.apply());
        x.moveClass(0, t("p/X"));
        x.movePackage(t("p"), t("p"));
        CHECKS.due("own names only", 0, () -> x.apply());
    }

    private static void howManyWereNot() {
        CHECKS.sentence("All new names become the names: how many were not");
        NameMover x = threeClasses();
        CHECKS.due("none", 0, () -> x.cancel());
        x.moveClass(0, t("p/C1"));
        x.moveClass(2, t("p/C2"));
        x.moveMember(0, 0, t("n"));
        x.moveMember(0, 1, t("f"));
        CHECKS.due("one class and three members, with a problem", 4, () -> x.cancel());
        CHECKS.dueText("the class's new name", "p/C0", () -> x.className(0, true));
        CHECKS.dueText("its name", "p/C0", () -> x.className(0, false));
        CHECKS.dueText("a member's new name", "m", () -> x.memberName(2, 0, true));
        CHECKS.dueText("its name", "m", () -> x.memberName(2, 0, false));
        CHECKS.due("a second time", 0, () -> x.cancel());
    }

    private static NameMover withEveryNameMoving() {
        NameMover x = new NameMover();
        for (int c = 0; c < 8; c++) {
            x.declare(t("C" + c), -1, false);
            for (int k = 0; k < 6; k++) {
                x.member(c, t("m" + k), t("()V"), false);
            }
        }
        for (int c = 0; c < 8; c++) {
            x.moveClass(c, t("C" + (c + 1) % 8));
            for (int k = 0; k < 6; k++) {
                x.moveMember(c, k, t("m" + (k + 1) % 6));
            }
        }
        return x;
    }

    private static void dueTurned(NameMover x, int by) {
        for (int c = 0; c < 8; c++) {
            int number = c;
            CHECKS.dueText("class " + c, "C" + (c + by) % 8, () -> x.className(number, false));
            CHECKS.dueText("new name of class " + c, "C" + (c + by) % 8, () -> x.className(number, true));
            for (int k = 0; k < 6; k++) {
                int member = k;
                String name = "m" + (k + by) % 6;
                CHECKS.dueText("member " + c + " " + k, name, () -> x.memberName(number, member, false));
                CHECKS.dueText("new name of member " + c + " " + k, name, () -> x.memberName(number, member, true));
            }
        }
    }

    private static void everyNameAtOnce() {
        CHECKS.sentence("All names (of classes and members) become the new ones, all 56");
        NameMover x = withEveryNameMoving();
        CHECKS.due("names that go round are no problem", 0, () -> x.problem());
        CHECKS.due("apply", 56, () -> x.apply());
        dueTurned(x, 1);
        CHECKS.sentence("All new names become the names, all 56");
        NameMover y = withEveryNameMoving();
        CHECKS.due("cancel", 56, () -> y.cancel());
        dueTurned(y, 0);
    }

    private static void howManyClassesThereAre() {
        CHECKS.sentence("How many classes there are");
        NameMover x = new NameMover();
        CHECKS.due("none", 0, () -> x.classes());
        x.declare(t("A"), -1, true);
        CHECKS.due("a library class", 1, () -> x.classes());
        x.write(0);
        x.poke(3, 'B');
        CHECKS.due("a file that is written is none", 1, () -> x.classes());
        x.load();
        CHECKS.due("a class that was loaded", 2, () -> x.classes());
        CHECKS.dueThrow("a file of a class that is there", Checks.ARGUMENT, () -> x.load());
        CHECKS.dueThrow("a name that is there", Checks.STATE, () -> x.declare(t("A"), -1, false));
        CHECKS.due("what was refused", 2, () -> x.classes());
    }

    private static void nameOrNewName() {
        CHECKS.sentence("The name of class c, or its new name .. The name of member k of class c, or its new name");
        NameMover x = threeClasses();
        x.moveClass(2, t("A"));
        x.moveMember(2, 1, t("g"));
        CHECKS.dueText("name of the class", "p/C2", () -> x.className(2, false));
        CHECKS.dueText("new name of the class", "A", () -> x.className(2, true));
        CHECKS.dueText("name of the member", "f", () -> x.memberName(2, 1, false));
        CHECKS.dueText("new name of the member", "g", () -> x.memberName(2, 1, true));
        CHECKS.dueText("new name of the first class", "p/C0", () -> x.className(0, true));
        CHECKS.dueText("new name of the first member", "m", () -> x.memberName(0, 0, true));
    }

    private static void foundInTheNearest() {
        CHECKS.sentence("The member that class c has .., or else its superclass, and so on");
        NameMover x = threeClasses();
        x.member(0, t("a"), t("I"), true);
        x.member(1, t("b"), t("I"), false);
        x.member(2, t("a"), t("J"), false);
        x.declare(t("D"), 1, false);
        CHECKS.due("its own before its superclass's", 16, () -> x.find(2, t("m"), t("()V")));
        CHECKS.due("its superclass's", 10, () -> x.find(2, t("b"), t("I")));
        CHECKS.due("the superclass's superclass's, by the descriptor", 2, () -> x.find(2, t("a"), t("I")));
        CHECKS.due("its own, by the descriptor", 18, () -> x.find(2, t("a"), t("J")));
        CHECKS.due("the nearest of two", 8, () -> x.find(3, t("m"), t("()V")));
        CHECKS.dueThrow("a sibling's", Checks.ELEMENT, () -> x.find(3, t("a"), t("J")));
        CHECKS.dueThrow("a class's under it", Checks.ELEMENT, () -> x.find(0, t("b"), t("I")));
    }

    private static void foundByNameNotNewName() {
        CHECKS.sentence("with this name (not new name)");
        NameMover x = threeClasses();
        x.moveMember(0, 0, t("n"));
        CHECKS.due("by the name", 16, () -> x.find(2, t("m"), t("()V")));
        CHECKS.dueThrow("by the new name", Checks.ELEMENT, () -> x.find(2, t("n"), t("()V")));
    }

    private static void foundByAnyTexts() {
        CHECKS.sentence("and descriptor (any texts)");
        NameMover x = threeClasses();
        long[] texts = {0L, -1L, Long.MIN_VALUE, Long.MAX_VALUE, t("1"), t("a/b"), t("V"), t("7"), t("(")};
        for (long text : texts) {
            CHECKS.dueThrow("name " + text, Checks.ELEMENT, () -> x.find(2, text, t("()V")));
            CHECKS.dueThrow("descriptor " + text, Checks.ELEMENT, () -> x.find(2, t("m"), text));
            CHECKS.dueThrow("both " + text, Checks.ELEMENT, () -> x.find(2, text, text));
        }
    }

    private static void writtenWithNames() {
        CHECKS.sentence("The buffer becomes the file of class c (with names, not new names)");
        NameMover x = new NameMover();
        x.declare(t("A"), -1, false);
        x.declare(t("B"), 0, false);
        x.member(1, t("f"), t("(0)1"), false);
        x.moveClass(0, t("Aa"));
        x.moveClass(1, t("Bb"));
        x.moveMember(1, 0, t("ff"));
        FILES.dueFile(x, "while it moves", 1, "202 4 'B' 'A' 'f' '(LA;)LB;' 1 2 0 1 3 4 0");
        x.apply();
        FILES.dueBuffer(x, "the buffer after apply", "202 4 'B' 'A' 'f' '(LA;)LB;' 1 2 0 1 3 4 0");
        FILES.dueFile(x, "after apply", 1, "202 4 'Bb' 'Aa' 'ff' '(LAa;)LBb;' 1 2 0 1 3 4 0");
    }

    private static void theBufferBecomesTheFile() {
        CHECKS.sentence("The buffer becomes the file of class c .. how many bytes it has");
        NameMover x = new NameMover();
        x.declare(t("A"), -1, false);
        x.declare(t("Bbbbbbbb"), 0, true);
        FILES.dueFile(x, "a longer file", 1, "202 2 'Bbbbbbbb' 'A' 1 2 1 0");
        FILES.dueFile(x, "a shorter one behind it", 0, "202 1 'A' 1 0 0 0");
        x.poke(7, 9);
        FILES.dueFile(x, "what was poked is gone", 0, "202 1 'A' 1 0 0 0");
        FILES.dueFile(x, "the longer one again", 1, "202 2 'Bbbbbbbb' 'A' 1 2 1 0");
    }

    private static void theFirstAndTheLastByte() {
        CHECKS.sentence("Byte i (from 0) of the buffer");
        NameMover x = new NameMover();
        x.declare(t("A"), -1, true);
        x.member(0, t("f"), t("I"), true);
        CHECKS.due("its length", 15, () -> x.write(0));
        CHECKS.due("the first", 202, () -> x.byteAt(0));
        CHECKS.due("the last", 1, () -> x.byteAt(14));
        CHECKS.dueDone("poke the first", () -> x.poke(0, 1));
        CHECKS.dueDone("poke the last", () -> x.poke(14, 77));
        FILES.dueBuffer(x, "no other has changed", "1 3 'A' 'f' 'I' 1 0 1 1 2 3 77");
    }

    private static void theLeastAndTheGreatestByte() {
        CHECKS.sentence("Byte i of the buffer becomes b .. when b is not 0 .. 255");
        NameMover x = new NameMover();
        x.declare(t("A"), -1, false);
        x.write(0);
        for (int b = 0; b < 256; b++) {
            int value = b;
            CHECKS.dueDone("poke " + b, () -> x.poke(2, value));
            if (b % 51 == 0 || b == 127 || b == 128) {
                CHECKS.due("it is there", b, () -> x.byteAt(2));
            }
        }
        FILES.dueFile(x, "the class is as it was", 0, "202 1 'A' 1 0 0 0");
    }

    private static void theBufferStays() {
        CHECKS.sentence("A new class is made so that the buffer is its file, byte by byte (the buffer stays): its number");
        NameMover x = threeClasses();
        x.write(2);
        x.poke(4, '-');
        CHECKS.dueThrow("a name that is none", Checks.ARGUMENT, () -> x.load());
        x.poke(4, '/');
        x.poke(3, 'q');
        String told = "202 6 'q/C2' 'p/C1' 'm' '()V' 'f' 'I' 1 2 0 2 3 4 0 5 6 0";
        CHECKS.due("its number", 3, () -> x.load());
        FILES.dueBuffer(x, "the buffer", told);
        FILES.dueFile(x, "its file", 3, told);
        CHECKS.due("it is under class 1", 4, () -> x.moveMember(3, 0, t("n")));
    }

    private static void theNewOneItself() {
        CHECKS.sentence("a class that is named (other than the new one itself, in its descriptors) is not there");
        NameMover x = FILES.withBuffer("202 4 'C' 'f' 'LC;' '([LC;)LA;' 1 0 0 2 2 3 0 2 4 0");
        CHECKS.due("its number", 3, () -> x.load());
        CHECKS.due("its own number in a field", 24, () -> x.find(3, t("f"), t("3")));
        CHECKS.due("its own number in a method", 25, () -> x.find(3, t("f"), t("([3)0")));
        x.moveClass(3, t("Dd"));
        x.apply();
        FILES.dueFile(x, "its new name goes along", 3, "202 4 'Dd' 'f' 'LDd;' '([LDd;)LA;' 1 0 0 2 2 3 0 2 4 0");
    }
}
