/** Promises 14, 15, 16 and 17: write, byteAt, poke, load. */
public final class FileTest {
    private static final Checks CHECKS = new Checks();
    private static final TestFiles FILES = new TestFiles(CHECKS);

    private static long t(String characters) {
        return Checks.text(characters);
    }

    public static void main(String[] args) {
        CHECKS.all(
                FileTest::theSmallestFile,
                FileTest::aWholeFile,
                FileTest::textsAreInThePoolOnce,
                FileTest::theOrderOfThePool,
                FileTest::textsThatOnlyStartAlike,
                FileTest::classesThatLookLikeTypes,
                FileTest::namesNotNewNames,
                FileTest::theGreatestFile,
                FileTest::wrongClassesToWrite,
                FileTest::bytes,
                FileTest::poking,
                FileTest::loading,
                FileTest::loadingUnderEachClass,
                FileTest::loadingAClassThatNamesItself,
                FileTest::loadingAfterNamesWereMoved,
                FileTest::statesThatRefuseALoad,
                FileTest::bytesThatAreNoFile,
                FileTest::poolsThatAreNotAsWritten,
                FileTest::namesThatAreNone,
                FileTest::descriptorsThatAreNone,
                FileTest::membersThatAreWrong,
                FileTest::aRefusedLoadLeavesNothing,
                FileTest::aRefusedLoadLeavesNoFamily,
                FileTest::aRefusedLoadLeavesNoSuperclass,
                FileTest::aRefusedLoadLeavesNoMember,
                FileTest::theMostMembers,
                FileTest::theEighthClass,
                FileTest::digitsInAFile);
    }

    private static void theSmallestFile() {
        CHECKS.sentence("that of its superclass's name, 0 if it has none; 1 for a library class, 0 else; the number of members");
        NameMover x = new NameMover();
        x.declare(t("A"), -1, false);
        FILES.dueFile(x, "a class alone", 0, "202 1 'A' 1 0 0 0");
        x.declare(t("L"), -1, true);
        FILES.dueFile(x, "a library class", 1, "202 1 'L' 1 0 1 0");
        x.declare(t("a/b/C"), 0, false);
        FILES.dueFile(x, "a class with a superclass", 2, "202 2 'a/b/C' 'A' 1 2 0 0");
    }

    private static void aWholeFile() {
        CHECKS.sentence("for each the number of its name, that of its descriptor, and 1 if it is fixed, 0 else");
        NameMover x = new NameMover();
        x.declare(t("A"), -1, false);
        x.declare(t("p/Bee"), 0, true);
        x.member(1, t("f"), t("[[1"), true);
        x.member(1, t("m"), t("(0I[1)Z"), false);
        x.member(1, t("m"), t("()V"), true);
        x.member(1, t("f"), t("J"), false);
        FILES.dueFile(x, "a whole file", 1, "202 8 'p/Bee' 'A' 'f' '[[Lp/Bee;' 'm' '(LA;I[Lp/Bee;)Z' '()V' 'J'"
                + " 1 2 1 4 3 4 1 5 6 0 5 7 1 3 8 0");
    }

    private static void textsAreInThePoolOnce() {
        CHECKS.sentence("The pool has each text once, in the order in which they are first used by what follows");
        NameMover x = new NameMover();
        x.declare(t("I"), -1, false);
        x.declare(t("J"), 0, false);
        x.member(1, t("I"), t("J"), false);
        x.member(1, t("J"), t("I"), false);
        x.member(1, t("J"), t("0"), false);
        x.member(1, t("Jj"), t("0"), false);
        FILES.dueFile(x, "texts that are used again", 1, "202 4 'J' 'I' 'LI;' 'Jj' 1 2 0 4 2 1 0 1 2 0 1 3 0 4 3 0");
    }

    private static void theOrderOfThePool() {
        CHECKS.sentence("in the order in which they are first used by what follows");
        NameMover x = new NameMover();
        x.declare(t("J"), -1, false);
        x.declare(t("C"), 0, false);
        x.member(1, t("m"), t("I"), false);
        x.member(1, t("I"), t("J"), false);
        x.member(1, t("C"), t("Z"), false);
        x.member(1, t("Z"), t("Z"), false);
        FILES.dueFile(x, "names and descriptors are one pool", 1,
                "202 5 'C' 'J' 'm' 'I' 'Z' 1 2 0 4 3 4 0 4 2 0 1 5 0 5 5 0");
        NameMover y = new NameMover();
        y.declare(t("J"), -1, false);
        y.member(0, t("m"), t("J"), false);
        y.member(0, t("a"), t("I"), false);
        FILES.dueFile(y, "not in the order of the letters", 0, "202 4 'J' 'm' 'a' 'I' 1 0 0 2 2 1 0 3 4 0");
    }

    private static void textsThatOnlyStartAlike() {
        CHECKS.sentence("The pool has each text once");
        NameMover x = new NameMover();
        x.declare(t("ab"), -1, false);
        x.declare(t("a"), 0, false);
        x.member(1, t("abc"), t("[I"), false);
        x.member(1, t("A"), t("I"), false);
        x.member(1, t("b"), t("[[I"), false);
        FILES.dueFile(x, "each is another text", 1,
                "202 8 'a' 'ab' 'abc' '[I' 'A' 'I' 'b' '[[I' 1 2 0 3 3 4 0 5 6 0 7 8 0");
    }

    private static void classesThatLookLikeTypes() {
        CHECKS.sentence("instead of a digit there is L, that class's name, and a semicolon");
        String[] names = {"L", "V", "I0", "L/L7", "J", "Z9/Z", "a/L"};
        NameMover x = new NameMover();
        for (String name : names) {
            x.declare(t(name), -1, false);
        }
        x.member(6, t("f"), t("(01234)5"), false);
        x.member(6, t("f"), t("([6I)I"), false);
        x.member(6, t("f"), t("[[0"), true);
        String told = "202 5 'a/L' 'f' '(LL;LV;LI0;LL/L7;LJ;)LZ9/Z;' '([La/L;I)I' '[[LL;' 1 0 0 3 2 3 0 2 4 0 2 5 1";
        FILES.dueFile(x, "their names", 6, told);
        x.poke(3, 'b');
        CHECKS.dueThrow("a name that is not there", Checks.ARGUMENT, () -> {
            x.poke(40, 'c');
            return x.load();
        });
        x.poke(40, 'b');
        CHECKS.due("they are read again", 7, () -> x.load());
        CHECKS.due("the digits of the first", 56, () -> x.find(7, t("f"), t("(01234)5")));
        CHECKS.due("of the second", 57, () -> x.find(7, t("f"), t("([7I)I")));
        CHECKS.due("of the third", 58, () -> x.find(7, t("f"), t("[[0")));
    }

    private static void namesNotNewNames() {
        CHECKS.sentence("The buffer becomes the file of class c (with names, not new names)");
        NameMover x = new NameMover();
        x.declare(t("A"), -1, false);
        x.declare(t("B"), 0, false);
        x.member(1, t("f"), t("0"), false);
        x.moveClass(0, t("Cc"));
        x.moveClass(1, t("Dd"));
        x.moveMember(1, 0, t("gg"));
        FILES.dueFile(x, "names while it moves", 1, "202 4 'B' 'A' 'f' 'LA;' 1 2 0 1 3 4 0");
        x.apply();
        CHECKS.due("the buffer stays", 'B', () -> x.byteAt(3));
        FILES.dueFile(x, "names that have moved", 1, "202 4 'Dd' 'Cc' 'gg' 'LCc;' 1 2 0 1 3 4 0");
    }

    private static void theGreatestFile() {
        CHECKS.sentence("how many bytes it has");
        NameMover x = new NameMover();
        x.declare(t("Aaaaaaaa"), -1, false);
        x.declare(t("a/b/c/dd"), 0, false);
        String[] descriptors = {"(01010)0", "(11010)0", "(00010)0", "(01110)0", "(01000)0", "(01011)0"};
        for (int k = 0; k < 6; k++) {
            x.member(1, t("abcdefg" + k), t(descriptors[k]), false);
        }
        CHECKS.due("the greatest file", 474, () -> x.write(1));
        CHECKS.due("its texts", 14, () -> x.byteAt(1));
        CHECKS.due("its last descriptor's length", 62, () -> x.byteAt(474 - 22 - 63));
        CHECKS.due("its last byte", 0, () -> x.byteAt(473));
        CHECKS.due("the number of its last descriptor", 14, () -> x.byteAt(472));
        x.poke(3, 'B');
        x.poke(473, 1);
        x.poke(2, 9);
        CHECKS.dueThrow("a wrong length in it", Checks.ARGUMENT, () -> x.load());
        x.poke(2, 8);
        CHECKS.due("the greatest file is loaded", 2, () -> x.load());
        CHECKS.due("and written", 474, () -> x.write(2));
        CHECKS.due("with what was poked", 1, () -> x.byteAt(473));
    }

    private static void wrongClassesToWrite() {
        CHECKS.sentence("IndexOutOfBoundsException when there is no such class");
        NameMover x = new NameMover();
        CHECKS.dueThrow("write of no class", Checks.INDEX, () -> x.write(0));
        x.declare(t("A"), -1, false);
        x.write(0);
        for (int c : new int[] {-1, 1, 8, Integer.MIN_VALUE, Integer.MAX_VALUE}) {
            CHECKS.dueThrow("write of class " + c, Checks.INDEX, () -> x.write(c));
        }
        CHECKS.due("the buffer stays", 202, () -> x.byteAt(0));
    }

    private static void bytes() {
        CHECKS.sentence("Byte i (from 0) of the buffer. IndexOutOfBoundsException when there is none");
        NameMover x = new NameMover();
        x.declare(t("Abcdefgh"), -1, false);
        x.declare(t("B"), -1, false);
        x.write(0);
        CHECKS.due("the last byte", 0, () -> x.byteAt(14));
        CHECKS.dueThrow("behind the last byte", Checks.INDEX, () -> x.byteAt(15));
        CHECKS.due("a shorter file", 8, () -> x.write(1));
        CHECKS.dueThrow("behind its last byte", Checks.INDEX, () -> x.byteAt(8));
        CHECKS.dueThrow("byte -1", Checks.INDEX, () -> x.byteAt(-1));
        CHECKS.dueThrow("the least byte", Checks.INDEX, () -> x.byteAt(Integer.MIN_VALUE));
        CHECKS.dueThrow("the greatest byte", Checks.INDEX, () -> x.byteAt(Integer.MAX_VALUE));
    }

    private static void poking() {
        CHECKS.sentence("Byte i of the buffer becomes b");
        NameMover x = new NameMover();
        CHECKS.dueNotDone("poke of an empty buffer", Checks.INDEX, () -> x.poke(0, 256));
        x.declare(t("A"), -1, false);
        x.write(0);
        CHECKS.dueDone("poke 255", () -> x.poke(7, 255));
        CHECKS.due("it is there", 255, () -> x.byteAt(7));
        CHECKS.dueDone("poke 0", () -> x.poke(0, 0));
        CHECKS.due("it is there", 0, () -> x.byteAt(0));
        CHECKS.dueNotDone("poke 256", Checks.ARGUMENT, () -> x.poke(1, 256));
        CHECKS.dueNotDone("poke -1", Checks.ARGUMENT, () -> x.poke(1, -1));
        CHECKS.dueNotDone("poke behind the end", Checks.INDEX, () -> x.poke(8, -1));
        CHECKS.dueNotDone("poke before the start", Checks.INDEX, () -> x.poke(-1, 256));
        CHECKS.due("nothing is poked", 1, () -> x.byteAt(1));
        CHECKS.dueText("the class is as it was", "A", () -> x.className(0, false));
    }

    private static void dueLoaded(String what, String told) {
        NameMover x = FILES.withBuffer(told);
        CHECKS.due(what, 3, () -> x.load());
        CHECKS.due(what + ", classes", 4, () -> x.classes());
        FILES.dueBuffer(x, what + ", the buffer stays", told);
        FILES.dueFile(x, what + ", written again", 3, told);
        CHECKS.due(what + ", nothing moves", 0, () -> x.cancel());
        CHECKS.dueThrow(what + ", a second time", Checks.ARGUMENT, () -> x.load());
    }

    private static void dueRefused(String what, String told) {
        NameMover x = FILES.withBuffer(told);
        CHECKS.dueThrow(what, Checks.ARGUMENT, () -> x.load());
        CHECKS.dueThrow(what + ", a second time", Checks.ARGUMENT, () -> x.load());
        CHECKS.due(what + ", classes", 3, () -> x.classes());
        FILES.dueBuffer(x, what + ", the buffer stays", told);
    }

    private static void loading() {
        CHECKS.sentence("A new class is made so that the buffer is its file, byte by byte");
        dueLoaded("a class alone", "202 1 'C' 1 0 0 0");
        dueLoaded("a library class with a superclass", "202 2 'a/C' 'A' 1 2 1 0");
        dueLoaded("a superclass in a package", "202 2 'C' 'a/B' 1 2 0 0");
        dueLoaded("fields", "202 5 'C' 'f' 'I' 'g' 'La/B;' 1 0 0 3 2 3 0 4 5 1 2 5 0");
        dueLoaded("methods", "202 5 'C' 'm' '(LA;[La/B;)V' 'n' '(IJZ)[I' 1 0 1 2 2 3 1 4 5 0");
        dueLoaded("a text of two uses", "202 2 'I' 'f' 1 0 0 2 1 1 0 2 1 0");
        NameMover x = FILES.withBuffer("202 5 'C' 'A' 'm' '(LA;[La/B;)V' 'f' 1 2 1 2 3 4 1 5 4 0");
        x.load();
        CHECKS.dueText("its name", "C", () -> x.className(3, false));
        CHECKS.dueText("its new name", "C", () -> x.className(3, true));
        CHECKS.dueText("its first member", "m", () -> x.memberName(3, 0, true));
        CHECKS.dueText("its second member", "f", () -> x.memberName(3, 1, false));
        CHECKS.due("its descriptor has digits", 24, () -> x.find(3, t("m"), t("(0[1)V")));
        CHECKS.due("its superclass's member", 0, () -> x.find(3, t("f"), t("I")));
        x.moveClass(3, t("D"));
        CHECKS.due("it is a library class", 10300, () -> x.problem());
    }

    private static void loadingUnderEachClass() {
        CHECKS.sentence("that of its superclass's name");
        for (int count = 2; count < 8; count++) {
            for (int above = 0; above < count; above++) {
                NameMover x = new NameMover();
                for (int c = 0; c < count; c++) {
                    x.declare(t("A" + c), c - 1, false);
                    x.member(c, t("f" + c), t("I"), false);
                }
                x.write(1);
                TestFiles.pokeAll(x, TestFiles.file("202 4 'B1' 'A" + above + "' 'g1' 'I' 1 2 0 1 3 4 0"));
                int number = count;
                int superclass = above;
                CHECKS.due(count + " classes, under class " + above, count, () -> x.load());
                CHECKS.due("its superclass's field", 8 * above, () -> x.find(number, t("f" + superclass), t("I")));
                CHECKS.dueThrow("no field of the class under that", Checks.ELEMENT,
                        () -> x.find(number, t("f" + (superclass + 1)), t("I")));
            }
        }
    }

    private static void loadingAClassThatNamesItself() {
        CHECKS.sentence("other than the new one itself, in its descriptors");
        dueLoaded("itself in a field", "202 3 'C' 'f' 'LC;' 1 0 0 1 2 3 0");
        dueLoaded("itself in a method", "202 3 'c/C' 'f' '(Lc/C;)[Lc/C;' 1 0 0 1 2 3 0");
        dueRefused("itself as superclass", "202 1 'C' 1 1 0 0");
        NameMover x = FILES.withBuffer("202 3 'C' 'f' 'LC;' 1 0 0 1 2 3 0");
        x.load();
        CHECKS.due("its own number", 24, () -> x.find(3, t("f"), t("3")));
    }

    private static void loadingAfterNamesWereMoved() {
        CHECKS.sentence("a class that is named .. is not there");
        NameMover x = FILES.withBuffer("202 3 'C' 'f' 'LA;' 1 0 0 1 2 3 0");
        x.moveClass(0, t("E"));
        x.apply();
        CHECKS.dueThrow("the old name of class 0", Checks.ARGUMENT, () -> x.load());
        x.poke(8, 'E');
        CHECKS.due("its name now", 3, () -> x.load());
        x.moveClass(0, t("Ee"));
        x.apply();
        FILES.dueFile(x, "what names it goes along", 3, "202 3 'C' 'f' 'LEe;' 1 0 0 1 2 3 0");
    }

    private static void statesThatRefuseALoad() {
        CHECKS.sentence("IllegalStateException when it is moving or there are 8 classes");
        NameMover x = FILES.withBuffer("202 1 'C' 1 0 0 0");
        x.moveMember(0, 0, t("g"));
        CHECKS.dueThrow("load while it moves", Checks.STATE, () -> x.load());
        x.poke(0, 0);
        CHECKS.dueThrow("load of no file while it moves", Checks.STATE, () -> x.load());
        x.cancel();
        CHECKS.dueThrow("load of no file", Checks.ARGUMENT, () -> x.load());
        for (int c = 3; c < 8; c++) {
            x.declare(t("X" + c), -1, false);
        }
        CHECKS.dueThrow("load of no file with 8 classes", Checks.STATE, () -> x.load());
        x.poke(0, 202);
        CHECKS.dueThrow("load with 8 classes", Checks.STATE, () -> x.load());
    }

    private static void bytesThatAreNoFile() {
        CHECKS.sentence("the bytes are no file");
        dueRefused("another mark", "201 1 'C' 1 0 0 0");
        dueRefused("a byte too many", "202 1 'C' 1 0 0 0 0");
        dueRefused("a byte less than due", "202 1 'CC' 1 0 0");
        dueRefused("no pool", "202 0 1 0 0 0 0 0");
        dueRefused("a pool beyond the end", "202 9 'C' 1 0 0 0");
        dueRefused("255 texts", "202 255 'C' 1 0 0 0");
        dueRefused("255 texts, the first of them long", "202 255 200 67 1 0 0 0");
        dueRefused("a text more than any file has", "202 15 15 67 1 0 0 0");
        dueRefused("a text beyond the end", "202 1 255 67 1 0 0 0");
        dueRefused("a text to the end", "202 1 5 67 1 0 0 0");
        dueRefused("a member too many", "202 1 'C' 1 0 0 1");
        dueRefused("255 members", "202 1 'C' 1 0 0 255");
        dueRefused("2 for a library class", "202 1 'C' 1 0 2 0");
        dueRefused("2 for a fixed member", "202 3 'C' 'f' 'I' 1 0 0 1 2 3 2");
        dueRefused("255 for a fixed member", "202 3 'C' 'f' 'I' 1 0 0 1 2 3 255");
        dueRefused("members that are not told", "202 3 'C' 'f' 'I' 1 0 0 0 2 3 0");
        dueRefused("zeros", "0 0 0 0 0 0 0 0");
    }

    private static void poolsThatAreNotAsWritten() {
        CHECKS.sentence("the bytes are no file, as the pool is another");
        dueRefused("a text that is not used", "202 2 'C' 'f' 1 0 0 0");
        dueRefused("a text twice", "202 3 'I' 'f' 'I' 1 0 0 1 2 3 0");
        dueRefused("another order", "202 3 'C' 'I' 'f' 1 0 0 1 3 2 0");
        dueRefused("the name is not first", "202 2 'A' 'C' 2 1 0 0");
        dueRefused("text 0 for the name", "202 1 'C' 0 0 0 0");
        dueRefused("text 2 of 1 for the name", "202 1 'C' 2 0 0 0");
        dueRefused("text 2 of 1 for the superclass", "202 1 'C' 1 2 0 0");
        dueRefused("text 255 for the superclass", "202 1 'C' 1 255 0 0");
        dueRefused("text 0 for a member's name", "202 3 'C' 'f' 'I' 1 0 0 1 0 3 0");
        dueRefused("text 4 of 3 for a member's name", "202 3 'C' 'f' 'I' 1 0 0 1 4 3 0");
        dueRefused("text 0 for a descriptor", "202 3 'C' 'f' 'I' 1 0 0 1 2 0 0");
        dueRefused("text 4 of 3 for a descriptor", "202 3 'C' 'f' 'I' 1 0 0 1 2 4 0");
        dueRefused("text 255 for a descriptor", "202 3 'C' 'f' 'I' 1 0 0 1 2 255 0");
        dueRefused("an empty text", "202 2 'C' '' 1 0 0 0");
    }

    private static void namesThatAreNone() {
        CHECKS.sentence("a name or descriptor is none: names");
        dueRefused("a class's name of a digit", "202 1 '1' 1 0 0 0");
        dueRefused("a class's name with a slash at its end", "202 1 'C/' 1 0 0 0");
        dueRefused("a zero in a class's name", "202 1 2 67 0 1 0 0 0");
        dueRefused("a class's name of nine characters", "202 1 'Cdefghijk' 1 0 0 0");
        dueRefused("a class's name that repeats after eight", "202 1 'CCCCCCCCC' 1 0 0 0");
        dueRefused("a class's name that is there", "202 1 'A' 1 0 0 0");
        dueRefused("another class's name that is there", "202 1 'a/B' 1 0 0 0");
        dueRefused("a superclass that is not there", "202 2 'C' 'D' 1 2 0 0");
        dueRefused("a zero in a superclass's name", "202 2 'C' 2 65 0 1 2 0 0");
        dueRefused("a superclass's name of nine characters", "202 2 'C' 'A12345678' 1 2 0 0");
        dueRefused("a member's name with a slash", "202 3 'C' 'f/g' 'I' 1 0 0 1 2 3 0");
        dueRefused("a member's name of a digit", "202 3 'C' '1' 'I' 1 0 0 1 2 3 0");
        dueRefused("an empty member's name", "202 3 'C' '' 'II' 1 0 0 1 2 3 0");
        dueRefused("a zero in a member's name", "202 3 'C' 2 102 0 'I' 1 0 0 1 2 3 0");
        dueRefused("a member's name of nine characters", "202 3 'C' 'abcdefghi' 'I' 1 0 0 1 2 3 0");
        dueLoaded("a member's name of eight characters", "202 3 'C' 'abcdefgh' 'I' 1 0 0 1 2 3 0");
        dueLoaded("a class's name of eight characters", "202 1 'Cdefghij' 1 0 0 0");
    }

    private static void refusedDescriptor(String descriptor) {
        dueRefused("descriptor " + descriptor, "202 3 'C' 'f' '" + descriptor + "' 1 0 0 1 2 3 0");
    }

    private static void acceptedDescriptor(String descriptor) {
        dueLoaded("descriptor " + descriptor, "202 3 'C' 'f' '" + descriptor + "' 1 0 0 1 2 3 0");
    }

    private static void descriptorsThatAreNone() {
        CHECKS.sentence("a name or descriptor is none: descriptors");
        String[] refused = {"V", "0", "1", "[0", "(0)V", "LD;", "LA", "L", "L;", "LA;;", "A;", "A", "[", "[V", "()", "(I",
            "(LA)V", "(LA;V", "IL", "LL", "LLA;", "La/B;I", "LA;LA;", "(V)V", "()VV", "(IIIIII)V", "(IIIIII)I",
            "[[[[[[[[I", "LA2345678;", "L[A;", "La;", "LB;", "[[[[[[[[LA;", "(LA;IIIII)V", "()V;", ";", "f"};
        for (String descriptor : refused) {
            refusedDescriptor(descriptor);
        }
        dueRefused("a zero behind a descriptor", "202 3 'C' 'f' 2 73 0 1 0 0 1 2 3 0");
        dueRefused("a zero in a class's name in a descriptor", "202 3 'C' 'f' 4 76 65 0 59 1 0 0 1 2 3 0");
        dueRefused("an empty descriptor", "202 3 'C' 'ff' '' 1 0 0 1 2 3 0");
        String[] accepted = {"I", "J", "Z", "LA;", "LC;", "[LA;", "[[[[[[[I", "[[[[[[[LA;", "()V", "(IIIII)I",
            "(LA;IIII)V", "(LA;La/B;LC;LA;LA;)LC;", "()[[[[[LA;", "(LA;)La/B;"};
        for (String descriptor : accepted) {
            acceptedDescriptor(descriptor);
        }
    }

    private static void membersThatAreWrong() {
        CHECKS.sentence("two members are the same");
        dueRefused("two members that are the same", "202 3 'C' 'f' 'I' 1 0 0 2 2 3 0 2 3 0");
        dueRefused("two that are not fixed alike", "202 3 'C' 'f' 'I' 1 0 0 2 2 3 0 2 3 1");
        dueLoaded("two with the same name", "202 4 'C' 'f' 'I' 'J' 1 0 0 2 2 3 0 2 4 0");
        dueLoaded("two with the same descriptor", "202 4 'C' 'f' 'I' 'g' 1 0 0 2 2 3 0 4 3 0");
    }

    private static void aRefusedLoadLeavesNothing() {
        CHECKS.sentence("A call that throws changes nothing: load");
        NameMover x = FILES.withBuffer("202 3 'C' 'f' 'I' 1 0 0 2 2 3 0 2 3 0");
        CHECKS.dueThrow("load", Checks.ARGUMENT, () -> x.load());
        CHECKS.dueThrow("there is no class of it", Checks.INDEX, () -> x.className(3, false));
        CHECKS.dueThrow("nor a member", Checks.INDEX, () -> x.memberName(3, 0, false));
        x.moveClass(0, t("C"));
        CHECKS.due("no problem with its name", 0, () -> x.problem());
        CHECKS.due("one name moves", 1, () -> x.cancel());
        CHECKS.due("its name is free", 3, () -> x.declare(t("C"), 0, false));
        CHECKS.dueThrow("the class has no member of it", Checks.INDEX, () -> x.memberName(3, 0, false));
        FILES.dueFile(x, "the class's file", 3, "202 2 'C' 'A' 1 2 0 0");
        CHECKS.due("its superclass's field", 0, () -> x.find(3, t("f"), t("I")));
        CHECKS.due("a field as in the file", 0, () -> x.member(3, t("f"), t("I"), false));
        CHECKS.due("its own field", 24, () -> x.find(3, t("f"), t("I")));
    }

    private static void aRefusedLoadLeavesNoFamily() {
        CHECKS.sentence("A call that throws changes nothing: load, of which no member is left");
        NameMover x = new NameMover();
        x.declare(t("A"), -1, false);
        x.member(0, t("m"), t("()V"), false);
        x.member(0, t("n"), t("()V"), false);
        x.write(0);
        x.poke(3, 'B');
        x.poke(1, 3);
        CHECKS.dueThrow("load of bytes that are no file", Checks.ARGUMENT, () -> x.load());
        x.poke(1, 4);
        x.poke(20, 2);
        CHECKS.dueThrow("load of a file with a wrong byte behind", Checks.ARGUMENT, () -> x.load());
        CHECKS.due("a class in its place", 1, () -> x.declare(t("C"), 0, false));
        CHECKS.due("a family of one", 1, () -> x.moveMember(0, 0, t("n")));
        CHECKS.due("a problem in the one class", 50001, () -> x.problem());
        CHECKS.due("a family of one", 1, () -> x.moveMember(0, 1, t("m")));
        CHECKS.due("no problem with what is not there", 0, () -> x.problem());
        CHECKS.due("two names", 2, () -> x.apply());
    }

    private static void aRefusedLoadLeavesNoSuperclass() {
        CHECKS.sentence("A call that throws changes nothing: load, whose class is not there to be named");
        NameMover x = FILES.withBuffer("202 1 'C' 1 0 0 1");
        CHECKS.dueThrow("a class without the member that is due", Checks.ARGUMENT, () -> x.load());
        x.poke(5, 1);
        x.poke(7, 0);
        FILES.dueBuffer(x, "now it is under itself", "202 1 'C' 1 1 0 0");
        CHECKS.dueThrow("it is not there", Checks.ARGUMENT, () -> x.load());
        CHECKS.due("no class", 3, () -> x.classes());
        NameMover y = FILES.withBuffer("202 3 'C' 'f' 'LC;' 1 0 0 1 2 3 2");
        CHECKS.dueThrow("a class with a wrong byte", Checks.ARGUMENT, () -> y.load());
        y.poke(3, 'D');
        y.poke(16, 0);
        FILES.dueBuffer(y, "now another one names it", "202 3 'D' 'f' 'LC;' 1 0 0 1 2 3 0");
        CHECKS.dueThrow("it is not there", Checks.ARGUMENT, () -> y.load());
        CHECKS.due("no class", 3, () -> y.classes());
    }

    private static void aRefusedLoadLeavesNoMember() {
        CHECKS.sentence("A call that throws changes nothing: load, whose members are no problem for others");
        NameMover x = FILES.withBuffer("202 4 'C' 'f' 'I' 'g' 1 0 0 2 2 3 0 4 3 2");
        CHECKS.dueThrow("a class with a wrong byte", Checks.ARGUMENT, () -> x.load());
        CHECKS.due("a class in its place", 3, () -> x.declare(t("C"), -1, false));
        CHECKS.due("a class under that", 4, () -> x.declare(t("D"), 3, false));
        CHECKS.due("its field", 0, () -> x.member(4, t("h"), t("I"), false));
        for (String name : new String[] {"f", "g"}) {
            CHECKS.due("it is alone", 1, () -> x.moveMember(4, 0, t(name)));
            CHECKS.due("no problem with what is not there", 0, () -> x.problem());
        }
        CHECKS.due("apply", 1, () -> x.apply());
    }

    private static void theMostMembers() {
        CHECKS.sentence("A class has MEMBERS 0, 1, .. (at most 6)");
        String six = "2 3 0 4 3 0 5 3 0 6 3 0 7 3 0 8 3 0";
        NameMover x = new NameMover();
        x.declare(t("A"), -1, false);
        for (String name : new String[] {"a", "b", "c", "d", "e", "f"}) {
            x.member(0, t(name), t("I"), false);
        }
        FILES.dueFile(x, "six members", 0, "202 8 'A' 'a' 'I' 'b' 'c' 'd' 'e' 'f' 1 0 0 6 " + six);
        x.poke(3, 'C');
        CHECKS.due("six members are loaded", 1, () -> x.load());
        CHECKS.dueThrow("no seventh", Checks.STATE, () -> x.member(1, t("g"), t("I"), false));
        // One text less (2 bytes) and a class's name of one character less make room for a member's 3 bytes.
        int[] seven = TestFiles.file("202 7 'C' 'a' 'I' 'b' 'c' 'd' 'e' 1 0 0 7 2 3 0 4 3 0 5 3 0 6 3 0 7 3 0 1 3 0 2 3 0");
        NameMover y = new NameMover();
        y.declare(t("Qq"), -1, false);
        for (String name : new String[] {"a", "b", "c", "d", "e", "f"}) {
            y.member(0, t(name), t("I"), false);
        }
        CHECKS.due("a file as long as one with seven members", seven.length, () -> y.write(0));
        TestFiles.pokeAll(y, seven);
        CHECKS.dueThrow("seven members are not loaded", Checks.ARGUMENT, () -> y.load());
    }

    private static void theEighthClass() {
        CHECKS.sentence("CLASSES 0, 1, .. (at most 8)");
        NameMover x = new NameMover();
        x.declare(t("A0"), -1, false);
        x.member(0, t("f"), t("0"), false);
        x.write(0);
        for (int c = 1; c < 8; c++) {
            x.poke(4, '0' + c);
            CHECKS.dueThrow("its descriptor names no class", Checks.ARGUMENT, () -> {
                x.poke(10, '9');
                return x.load();
            });
            x.poke(10, '0' + c);
            int number = c;
            CHECKS.due("class " + c + " names itself", c, () -> x.load());
            CHECKS.due("by its number", 8 * c, () -> x.find(number, t("f"), t("" + number)));
        }
        CHECKS.dueThrow("the ninth class", Checks.STATE, () -> x.load());
    }

    private static void digitsInAFile() {
        CHECKS.sentence("Descriptors are written out here: instead of a digit there is L, that class's name, and a semicolon");
        for (int count = 1; count < 8; count++) {
            NameMover x = new NameMover();
            for (int c = 0; c < count; c++) {
                x.declare(t("A" + c), -1, false);
            }
            x.member(0, t("f"), t("I"), false);
            x.write(0);
            x.poke(3, 'B');
            for (int digit = 0; digit < 10; digit++) {
                x.poke(8, '0' + digit);
                CHECKS.dueThrow(count + " classes, digit " + digit, Checks.ARGUMENT, () -> x.load());
            }
            x.poke(8, 'J');
            int number = count;
            CHECKS.due("no digit", number, () -> x.load());
        }
    }
}
