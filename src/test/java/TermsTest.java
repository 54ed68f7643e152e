import java.util.regex.Pattern;

/** The sections "What it is" and "Terms": each sentence that names an edge has a test of its own. */
public final class TermsTest {
    private static final Checks CHECKS = new Checks();
    private static final TestFiles FILES = new TestFiles(CHECKS);
    private static final Pattern CLASS_NAME = Pattern.compile("[a-zA-Z][a-zA-Z0-9]*(/[a-zA-Z][a-zA-Z0-9]*)*");

    private static long t(String characters) {
        return Checks.text(characters);
    }

    public static void main(String[] args) {
        CHECKS.all(
                TermsTest::fiveHundredAndTwelveCalls,
                TermsTest::aText,
                TermsTest::aZeroInsideAText,
                TermsTest::anIdentifier,
                TermsTest::aClassName,
                TermsTest::aPackage,
                TermsTest::atMostEightClasses,
                TermsTest::aSuperclassHasALesserNumber,
                TermsTest::ancestors,
                TermsTest::atMostSixMembers,
                TermsTest::theNumberOfAMember,
                TermsTest::aDescriptorOfAtMostEightCharacters,
                TermsTest::aType,
                TermsTest::aDigitOfAClassThatIsThere,
                TermsTest::fieldsAndMethods,
                TermsTest::noTwoMembersAreTheSame,
                TermsTest::aNewNameIsTheNameAtFirst,
                TermsTest::moving,
                TermsTest::theBufferIsEmptyAtFirst);
    }

    private static NameMover withClasses(String... names) {
        NameMover x = new NameMover();
        for (String name : names) {
            x.declare(t(name), -1, false);
        }
        return x;
    }

    /** Class 7 under class 6 under .. class 0. */
    private static NameMover chainOfEight() {
        NameMover x = new NameMover();
        for (int c = 0; c < 8; c++) {
            x.declare(t("C" + c), c - 1, false);
        }
        return x;
    }

    private static void fiveHundredAndTwelveCalls() {
        CHECKS.sentence("An object is used for at most 512 calls after it has been made");
        NameMover x = new NameMover();
        for (int c = 0; c < 8; c++) {
            int number = c;
            CHECKS.due("declare", c, () -> x.declare(t("C" + number), number - 1, false));
        }
        for (int m = 0; m < 48; m++) {
            int number = m;
            CHECKS.due("member", m % 6, () -> x.member(number / 6, t("m" + number), t("()V"), false));
        }
        for (int round = 0; round < 113; round++) {
            String name = "m" + "abcdefg".substring(round % 7);
            CHECKS.due("moveMember", 1, () -> x.moveMember(7, 5, t(name)));
            CHECKS.due("problem", 0, () -> x.problem());
            CHECKS.due("apply", 1, () -> x.apply());
            CHECKS.due("write", 2 + 3 + 3 + 4 + 4 * 5 + name.length() + 1 + 4 + 18, () -> x.write(7));
        }
        CHECKS.due("call 509: cancel", 0, () -> x.cancel());
        CHECKS.due("call 510: classes", 8, () -> x.classes());
        CHECKS.due("call 511: find", 0, () -> x.find(7, t("m0"), t("()V")));
        CHECKS.dueThrow("call 512: load", Checks.STATE, () -> x.load());
    }

    private static void aText() {
        CHECKS.sentence("the code of its first character lowest, eight bits each, zeros behind the last one");
        NameMover x = withClasses("A");
        CHECKS.due("A/b1 as a number", 1, () -> x.declare(0x31622f41L, -1, false));
        FILES.dueFile(x, "its characters in their order", 1, "202 1 'A/b1' 1 0 0 0");
        CHECKS.due("eight characters as a number", 2, () -> x.declare(0x4837363534333241L, -1, false));
        FILES.dueFile(x, "all eight of them", 2, "202 1 'A234567H' 1 0 0 0");
        CHECKS.dueThrow("the last of eight bits set", Checks.ARGUMENT, () -> x.declare(0xc837363534333241L, -1, false));
        CHECKS.dueThrow("a bit above A", Checks.ARGUMENT, () -> x.declare(0xc2L, -1, false));
        CHECKS.dueThrow("the least number", Checks.ARGUMENT, () -> x.declare(Long.MIN_VALUE, -1, false));
        CHECKS.dueThrow("the greatest number", Checks.ARGUMENT, () -> x.declare(Long.MAX_VALUE, -1, false));
        for (long wrong : new long[] {-1L, Long.MIN_VALUE, Long.MAX_VALUE, 0xc837363534333241L}) {
            CHECKS.dueThrow("a class's new name " + wrong, Checks.ARGUMENT, () -> done(() -> x.moveClass(0, wrong)));
            CHECKS.dueThrow("a package to go from " + wrong, Checks.ARGUMENT, () -> x.movePackage(wrong, t("a")));
            CHECKS.dueThrow("a package to go to " + wrong, Checks.ARGUMENT, () -> x.movePackage(t("a"), wrong));
            CHECKS.dueThrow("a member's name " + wrong, Checks.ARGUMENT, () -> x.member(0, wrong, t("I"), false));
            CHECKS.dueThrow("a descriptor " + wrong, Checks.ARGUMENT, () -> x.member(0, t("f"), wrong, false));
        }
    }

    private static void aZeroInsideAText() {
        CHECKS.sentence("A TEXT of 0 to 8 characters .. zeros behind the last one");
        for (String zeros : new String[] {"\u0000", "\u0000\u0000", "\u0000\u0000\u0000\u0000\u0000\u0000"}) {
            NameMover x = withClasses("A", "a");
            x.member(0, t("a"), t("I"), false);
            for (String wrong : new String[] {zeros + "A", "A" + zeros + "A"}) {
                CHECKS.dueTaken("declare", false, () -> x.declare(t(wrong), -1, false));
                CHECKS.dueTaken("moveClass", false, () -> done(() -> x.moveClass(0, t(wrong))));
                CHECKS.dueTaken("movePackage from it", false, () -> x.movePackage(t(wrong), t("b")));
                CHECKS.dueTaken("movePackage to it", false, () -> x.movePackage(t("b"), t(wrong)));
                CHECKS.dueTaken("a member's name", false, () -> x.member(0, t(wrong), t("I"), false));
                CHECKS.dueTaken("a member's new name", false, () -> x.moveMember(0, 0, t(wrong)));
            }
            for (String wrong : new String[] {zeros + "I", "[" + zeros + "I", "I" + zeros + "I"}) {
                CHECKS.dueTaken("a descriptor", false, () -> x.member(0, t("b"), t(wrong), false));
            }
            CHECKS.dueThrow("find of a name", Checks.ELEMENT, () -> x.find(0, t("a" + zeros + "a"), t("I")));
            CHECKS.dueThrow("find of a descriptor", Checks.ELEMENT, () -> x.find(0, t("a"), t(zeros + "I")));
        }
    }

    private static long done(Checks.Deed deed) {
        deed.run();
        return 0;
    }

    private static void tryIdentifier(String name, boolean good) {
        NameMover x = withClasses("A");
        String codes = java.util.Arrays.toString(name.toCharArray());
        x.member(0, t("q"), t("J"), false);
        CHECKS.dueTaken("member " + codes, good, () -> x.member(0, t(name), t("I"), false));
        CHECKS.dueTaken("moveMember " + codes, good, () -> x.moveMember(0, 0, t(name)));
    }

    private static void anIdentifier() {
        CHECKS.sentence("An IDENTIFIER is a text of 1 to 8 characters, a letter (a .. z, A .. Z) and then letters or digits");
        tryIdentifier("", false);
        tryIdentifier("a/b", false);
        for (int length = 1; length <= 8; length++) {
            tryIdentifier("A2345678".substring(0, length), true);
            tryIdentifier("12345678".substring(0, length), false);
        }
        for (int code = 1; code < 256; code++) {
            String ch = String.valueOf((char) code);
            boolean letter = ch.matches("[a-zA-Z]");
            boolean digit = ch.matches("[0-9]");
            tryIdentifier(ch, letter);
            tryIdentifier("a" + ch, letter || digit);
            tryIdentifier("abcdefg" + ch, letter || digit);
        }
    }

    private static void tryClassName(String name) {
        boolean good = CLASS_NAME.matcher(name).matches();
        NameMover x = new NameMover();
        CHECKS.dueTaken("declare " + name, good, () -> x.declare(t(name), -1, false));
        NameMover y = withClasses("A");
        CHECKS.dueTaken("moveClass " + name, good, () -> done(() -> y.moveClass(0, t(name))));
        CHECKS.dueTaken("movePackage from " + name, good || name.isEmpty(), () -> y.movePackage(t(name), 0L));
        CHECKS.dueTaken("movePackage to " + name, good || name.isEmpty(), () -> y.movePackage(t("none"), t(name)));
    }

    private static void aClassName() {
        CHECKS.sentence("A CLASS NAME is one or more identifiers with a / between two, at most 8 characters in all");
        tryClassName("");
        forAllTexts("a1/", 1, "", TermsTest::tryClassName);
        forAllTexts("a1/", 2, "", TermsTest::tryClassName);
        forAllTexts("a1/", 3, "", TermsTest::tryClassName);
        forAllTexts("a1/", 5, "", TermsTest::tryClassName);
        forAllTexts("a1/", 8, "", TermsTest::tryClassName);
        for (int code = 1; code < 256; code++) {
            tryClassName("a/" + (char) code);
            tryClassName("a/a" + (char) code);
        }
    }

    private interface OfText {
        void done(String text);
    }

    private static void forAllTexts(String alphabet, int length, String start, OfText test) {
        if (start.length() == length) {
            test.done(start);
            return;
        }
        for (char ch : alphabet.toCharArray()) {
            forAllTexts(alphabet, length, start + ch, test);
        }
    }

    private static void aPackage() {
        CHECKS.sentence("its PACKAGE is what is before the last /, or the empty text if there is none");
        String[] names = {"C", "a/C", "a/b/C", "a/b/c/C", "a/b/D", "b/a/C", "ab/C", "abcdef/C"};
        String[] packages = {"", "a", "a/b", "a/b/c", "b/a", "ab", "abcdef", "b", "C", "a/C"};
        int[] inIt = {1, 1, 2, 1, 1, 1, 1, 0, 0, 0};
        NameMover x = withClasses(names);
        for (int p = 0; p < packages.length; p++) {
            String from = packages[p];
            CHECKS.due("classes in " + from, inIt[p], () -> x.movePackage(t(from), t("z")));
        }
        for (int c = 0; c < 8; c++) {
            int number = c;
            String last = names[c].substring(names[c].length() - 1);
            CHECKS.dueText("what is left of " + names[c], "z/" + last, () -> x.className(number, true));
        }
    }

    private static void atMostEightClasses() {
        CHECKS.sentence("CLASSES 0, 1, .. (at most 8)");
        NameMover x = new NameMover();
        for (int c = 0; c < 8; c++) {
            int number = c;
            CHECKS.due("class " + c, c, () -> x.declare(t("C" + number), -1, false));
            CHECKS.due("how many there are", c + 1, () -> x.classes());
        }
        CHECKS.dueThrow("class 8", Checks.STATE, () -> x.declare(t("C8"), -1, false));
        x.write(7);
        x.poke(3, 'D');
        CHECKS.dueThrow("class 8 from a file", Checks.STATE, () -> x.load());
        CHECKS.due("there are 8", 8, () -> x.classes());
        CHECKS.dueText("the last one", "C7", () -> x.className(7, false));
        CHECKS.dueThrow("the one behind it", Checks.INDEX, () -> x.className(8, false));
    }

    private static void aSuperclassHasALesserNumber() {
        CHECKS.sentence("perhaps a SUPERCLASS (a class with a lesser number)");
        for (int count = 0; count < 8; count++) {
            for (int superclass = -3; superclass < 10; superclass++) {
                int number = count;
                int above = superclass;
                NameMover x = new NameMover();
                for (int c = 0; c < count; c++) {
                    x.declare(t("C" + c), -1, false);
                }
                if (above >= -1 && above < count) {
                    CHECKS.due("superclass " + above, number, () -> x.declare(t("X"), above, false));
                } else {
                    CHECKS.dueThrow("superclass " + above, Checks.INDEX, () -> x.declare(t("X"), above, false));
                }
            }
        }
    }

    private static void ancestors() {
        CHECKS.sentence("The ANCESTORS of a class are its superclass and the ancestors of that");
        NameMover x = chainOfEight();
        x.member(0, t("f"), t("I"), false);
        x.member(3, t("g"), t("I"), false);
        CHECKS.due("the topmost ancestor of the last class", 0, () -> x.find(7, t("f"), t("I")));
        CHECKS.due("one between", 24, () -> x.find(7, t("g"), t("I")));
        CHECKS.due("the class itself", 24, () -> x.find(3, t("g"), t("I")));
        CHECKS.dueThrow("no class under it", Checks.ELEMENT, () -> x.find(2, t("g"), t("I")));
        NameMover y = new NameMover();
        y.declare(t("A"), -1, false);
        y.declare(t("B"), 0, false);
        y.declare(t("C"), 0, false);
        y.declare(t("D"), -1, false);
        y.declare(t("E"), 2, false);
        y.member(0, t("a"), t("I"), false);
        y.member(1, t("b"), t("I"), false);
        CHECKS.due("over a gap in the numbers", 0, () -> y.find(4, t("a"), t("I")));
        CHECKS.dueThrow("no sibling of an ancestor", Checks.ELEMENT, () -> y.find(4, t("b"), t("I")));
        CHECKS.dueThrow("a class without a superclass has none", Checks.ELEMENT, () -> y.find(3, t("a"), t("I")));
    }

    private static void atMostSixMembers() {
        CHECKS.sentence("A class has MEMBERS 0, 1, .. (at most 6)");
        NameMover x = chainOfEight();
        for (int c = 0; c < 8; c++) {
            for (int k = 0; k < 6; k++) {
                int owner = c;
                String name = "f" + k;
                CHECKS.due("member " + k + " of " + c, k, () -> x.member(owner, t(name), t("I"), false));
            }
        }
        for (int c = 0; c < 8; c++) {
            int owner = c;
            CHECKS.dueThrow("member 6 of " + c, Checks.STATE, () -> x.member(owner, t("f6"), t("I"), false));
            CHECKS.dueText("the last one", "f5", () -> x.memberName(owner, 5, false));
            CHECKS.dueThrow("the one behind it", Checks.INDEX, () -> x.memberName(owner, 6, false));
        }
    }

    private static void theNumberOfAMember() {
        CHECKS.sentence("member k of class c is also called 8 c + k");
        NameMover x = new NameMover();
        for (int c = 0; c < 8; c++) {
            x.declare(t("C" + c), -1, true);
            for (int k = 0; k < 6; k++) {
                x.member(c, t("f" + k), t("I"), false);
            }
        }
        for (int c = 0; c < 8; c++) {
            for (int k = 0; k < 6; k++) {
                int owner = c;
                int member = k;
                CHECKS.due("find", 8 * c + k, () -> x.find(owner, t("f" + member), t("I")));
                x.moveMember(c, k, t("g"));
                CHECKS.due("problem", 20000 + 100 * (8 * c + k), () -> x.problem());
                x.moveMember(c, k, t("f" + k));
            }
        }
    }

    private static void aDescriptorOfAtMostEightCharacters() {
        CHECKS.sentence("A descriptor is a text of at most 8 characters");
        for (String good : new String[] {"[[[[[[[I", "(IIIII)V", "()[[[[[0"}) {
            NameMover x = withClasses("A");
            CHECKS.due("eight characters: " + good, 0, () -> x.member(0, t("f"), t(good), false));
        }
        // Written out a descriptor may be longer; what counts is its text with digits.
        for (String good : new String[] {"[[[[[[[LA;", "(La/B;LA;LA;LA;LA;)LA;", "()[[[[[LC;"}) {
            NameMover x = FILES.withBuffer("202 3 'C' 'f' '" + good + "' 1 0 0 1 2 3 0");
            CHECKS.due("eight characters in a file: " + good, 3, () -> x.load());
        }
        for (String bad : new String[] {"[[[[[[[[I", "[[[[[[[[LA;", "(IIIIII)V", "(LA;IIIII)V", "()[[[[[[LC;"}) {
            NameMover x = FILES.withBuffer("202 3 'C' 'f' '" + bad + "' 1 0 0 1 2 3 0");
            CHECKS.dueThrow("nine characters in a file: " + bad, Checks.ARGUMENT, () -> x.load());
        }
    }

    private static void tryDescriptor(String descriptor, boolean good) {
        NameMover x = withClasses("A");
        CHECKS.dueTaken("descriptor " + descriptor, good, () -> x.member(0, t("f"), t(descriptor), false));
    }

    private static void aType() {
        CHECKS.sentence("A TYPE is I, J, Z, a digit 0 .. 7 that is the number of a class that is there, or [ and a type");
        tryDescriptor("", false);
        for (int code = 1; code < 256; code++) {
            String ch = String.valueOf((char) code);
            boolean good = ch.matches("[IJZ0]");
            tryDescriptor(ch, good);
            tryDescriptor("[" + ch, good);
            tryDescriptor("[[[[[[[" + ch, good);
            tryDescriptor("(" + ch + ")V", good);
            tryDescriptor("()" + ch, good || ch.equals("V"));
            tryDescriptor("(I[" + ch + ")J", good);
            tryDescriptor(ch + "I", ch.equals("["));
            tryDescriptor("[" + ch + "I", ch.equals("["));
            tryDescriptor("()" + ch + "I", ch.equals("["));
        }
        tryDescriptor("[", false);
        tryDescriptor("[[[[[[[", false);
        tryDescriptor("[[[[[[[[", false);
    }

    private static void aDigitOfAClassThatIsThere() {
        CHECKS.sentence("a digit 0 .. 7 that is the number of a class that is there");
        for (int count = 1; count <= 8; count++) {
            NameMover x = new NameMover();
            for (int c = 0; c < count; c++) {
                x.declare(t("C" + c), -1, false);
            }
            for (int digit = 0; digit < 10; digit++) {
                String type = String.valueOf(digit);
                String name = "f" + digit;
                int owner = digit % count;
                CHECKS.dueTaken(count + " classes, " + type, digit < count, () -> x.member(owner, t(name), t(type), false));
                CHECKS.dueTaken(count + " classes, (" + type + ")", digit < count,
                        () -> x.member(owner, t(name), t("(" + type + ")V"), false));
            }
        }
    }

    private static final Pattern DESCRIPTOR = Pattern.compile("\\[*[IJZ0]|\\((\\[*[IJZ0])*\\)(V|\\[*[IJZ0])");

    private static void tryDescriptor(String descriptor) {
        tryDescriptor(descriptor, DESCRIPTOR.matcher(descriptor).matches());
    }

    private static void fieldsAndMethods() {
        CHECKS.sentence("A FIELD's descriptor is a type; a METHOD's is (, any number of types, ), and a type or V");
        for (int length = 1; length <= 5; length++) {
            forAllTexts("I0[()V", length, "", TermsTest::tryDescriptor);
        }
        for (int code = 1; code < 256; code++) {
            String ch = String.valueOf((char) code);
            tryDescriptor(ch + ")V", ch.equals("("));
            tryDescriptor(ch + "I)V", ch.equals("("));
            tryDescriptor("(" + ch + "V", ch.equals(")"));
            tryDescriptor("(I" + ch + "I", ch.equals(")"));
            tryDescriptor("()V" + ch, false);
        }
        forAllTexts("I[()", 7, "", text -> {
            tryDescriptor(text + "I");
            tryDescriptor(text + "V");
        });
    }

    private static void noTwoMembersAreTheSame() {
        CHECKS.sentence("No two members of a class have the same name and the same descriptor");
        NameMover x = new NameMover();
        x.declare(t("A"), -1, false);
        x.declare(t("B"), 0, false);
        x.member(0, t("f"), t("I"), false);
        CHECKS.dueThrow("the same", Checks.STATE, () -> x.member(0, t("f"), t("I"), false));
        CHECKS.dueThrow("the same, but fixed", Checks.STATE, () -> x.member(0, t("f"), t("I"), true));
        CHECKS.due("another descriptor", 1, () -> x.member(0, t("f"), t("[I"), false));
        CHECKS.due("a method's descriptor", 2, () -> x.member(0, t("f"), t("()I"), false));
        CHECKS.due("another name", 3, () -> x.member(0, t("F"), t("I"), false));
        CHECKS.due("the same in another class", 0, () -> x.member(1, t("f"), t("I"), false));
        CHECKS.dueThrow("the first again", Checks.STATE, () -> x.member(0, t("f"), t("I"), false));
        CHECKS.dueThrow("the last again", Checks.STATE, () -> x.member(0, t("F"), t("I"), false));
        x.moveMember(0, 0, t("g"));
        x.apply();
        CHECKS.due("a name that is free again", 4, () -> x.member(0, t("f"), t("I"), false));
        CHECKS.dueThrow("a name that was moved to", Checks.STATE, () -> x.member(0, t("g"), t("I"), false));
    }

    private static void aNewNameIsTheNameAtFirst() {
        CHECKS.sentence("Each class and each member has a NEW NAME, which is its name at first");
        NameMover x = withClasses("A");
        x.member(0, t("f"), t("I"), false);
        x.write(0);
        x.poke(3, 'B');
        x.load();
        CHECKS.dueText("of a class that was declared", "A", () -> x.className(0, true));
        CHECKS.dueText("of a member that was made", "f", () -> x.memberName(0, 0, true));
        CHECKS.dueText("of a class that was loaded", "B", () -> x.className(1, true));
        CHECKS.dueText("of a member that was loaded", "f", () -> x.memberName(1, 0, true));
        CHECKS.due("none is another", 0, () -> x.cancel());
        // A class that was refused must not leave its new names to the one that takes its number.
        x.poke(3, 'C');
        x.poke(6, 'g');
        x.poke(0, 0);
        CHECKS.dueThrow("load", Checks.ARGUMENT, () -> x.load());
        x.declare(t("D"), -1, false);
        x.member(2, t("h"), t("I"), false);
        CHECKS.dueText("of a class behind a refused one", "D", () -> x.className(2, true));
        CHECKS.dueText("of its member", "h", () -> x.memberName(2, 0, true));
    }

    private static NameMover toBeMoved() {
        NameMover x = new NameMover();
        for (int c = 0; c < 7; c++) {
            x.declare(t("p/C" + c), c - 1, c == 3);
        }
        for (int k = 0; k < 6; k++) {
            x.member(6, t("f" + k), t("I"), false);
        }
        x.member(3, t("f"), t("I"), false);
        x.write(3);
        x.poke(3, 'q');
        return x;
    }

    private static void dueMoving(String what, boolean moving, Checks.Call move, NameMover x) {
        CHECKS.sentence("It is MOVING as long as some new name (of a class or member) is not the name");
        Checks.told(move);
        if (moving) {
            CHECKS.dueThrow(what + ": declare", Checks.STATE, () -> x.declare(t("N"), -1, false));
            CHECKS.dueThrow(what + ": member", Checks.STATE, () -> x.member(0, t("n"), t("I"), false));
            CHECKS.dueThrow(what + ": load", Checks.STATE, () -> x.load());
        } else {
            CHECKS.due(what + ": member", 0, () -> x.member(0, t("n"), t("I"), false));
            CHECKS.due(what + ": load", 7, () -> x.load());
        }
    }

    private static void moving() {
        NameMover a = toBeMoved();
        dueMoving("the first class", true, () -> done(() -> a.moveClass(0, t("p/X"))), a);
        dueMoving("its own name", false, () -> done(() -> a.moveClass(0, t("p/C0"))), a);
        NameMover b = toBeMoved();
        dueMoving("the last class", true, () -> done(() -> b.moveClass(6, t("p/X"))), b);
        dueMoving("cancel", false, () -> b.cancel(), b);
        NameMover c = toBeMoved();
        dueMoving("the last member", true, () -> c.moveMember(6, 5, t("x")), c);
        dueMoving("its own name", false, () -> c.moveMember(6, 5, t("f5")), c);
        NameMover d = toBeMoved();
        dueMoving("a library class", true, () -> done(() -> d.moveClass(3, t("p/X"))), d);
        dueMoving("a refused apply", true, () -> d.apply(), d);
        dueMoving("cancel", false, () -> d.cancel(), d);
        NameMover e = toBeMoved();
        dueMoving("a library member", true, () -> e.moveMember(3, 0, t("x")), e);
        dueMoving("its own name", false, () -> e.moveMember(3, 0, t("f")), e);
        NameMover f = toBeMoved();
        dueMoving("a class and a member", true, () -> {
            f.moveClass(6, t("p/X"));
            return f.moveMember(6, 0, t("x"));
        }, f);
        dueMoving("the class has its own name", true, () -> done(() -> f.moveClass(6, t("p/C6"))), f);
        dueMoving("apply", false, () -> f.apply(), f);
        NameMover g = toBeMoved();
        dueMoving("a package", true, () -> g.movePackage(t("p"), t("q")), g);
        dueMoving("the package's own name", false, () -> g.movePackage(t("p"), t("p")), g);
        NameMover h = toBeMoved();
        dueMoving("a package that nothing is in", false, () -> h.movePackage(t("q"), t("r")), h);
    }

    private static void theBufferIsEmptyAtFirst() {
        CHECKS.sentence("THE BUFFER is a row of bytes, empty at first");
        NameMover x = withClasses("A");
        CHECKS.dueThrow("byteAt", Checks.INDEX, () -> x.byteAt(0));
        CHECKS.dueNotDone("poke", Checks.INDEX, () -> x.poke(0, 0));
        CHECKS.dueThrow("load", Checks.ARGUMENT, () -> x.load());
        CHECKS.due("write", 8, () -> x.write(0));
        CHECKS.due("byteAt", 202, () -> x.byteAt(0));
    }
}
