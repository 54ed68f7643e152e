/** Promises 1, 2, 3, 10, 11 and 12: a new object, declare, member, classes, className, memberName. */
public final class DeclaringTest {
    private static final Checks CHECKS = new Checks();

    private static long t(String characters) {
        return Checks.text(characters);
    }

    public static void main(String[] args) {
        CHECKS.all(
                DeclaringTest::newObject,
                DeclaringTest::classNames,
                DeclaringTest::superclasses,
                DeclaringTest::statesThatRefuseAClass,
                DeclaringTest::orderOfExceptionsOfDeclare,
                DeclaringTest::identifiers,
                DeclaringTest::fieldDescriptors,
                DeclaringTest::methodDescriptors,
                DeclaringTest::descriptorsOfClassesThatAreThere,
                DeclaringTest::statesThatRefuseAMember,
                DeclaringTest::orderOfExceptionsOfMember,
                DeclaringTest::namesAndNewNames);
    }

    private static void newObject() {
        NameMover x = new NameMover();
        CHECKS.due("classes of a new object", 0, () -> x.classes());
        CHECKS.due("problem of a new object", 0, () -> x.problem());
        CHECKS.due("apply on a new object", 0, () -> x.apply());
        CHECKS.due("cancel on a new object", 0, () -> x.cancel());
        CHECKS.dueThrow("byteAt of an empty buffer", Checks.INDEX, () -> x.byteAt(0));
        CHECKS.dueThrow("className of a new object", Checks.INDEX, () -> x.className(0, false));
        CHECKS.dueThrow("load of an empty buffer", Checks.ARGUMENT, () -> x.load());
    }

    private static void classNames() {
        String[] good = {"A", "z", "a1", "Zz9", "abcdefgh", "a/b/c/d", "a/B", "ab/c1/De", "abcdef/A", "A0/z"};
        for (String name : good) {
            NameMover x = new NameMover();
            CHECKS.due("declare " + name, 0, () -> x.declare(t(name), -1, false));
            CHECKS.dueText("its name", name, () -> x.className(0, false));
            CHECKS.dueText("its new name", name, () -> x.className(0, true));
            CHECKS.due("classes", 1, () -> x.classes());
        }
        String[] bad = {"", "1", "1a", "/", "/a", "a/", "a//b", "a/1", "a b", "a.b", "a-", "@", "[", "`", "{", "a\u0000b",
            "\u0000a", "a/b/", "a_b", "a\u00e4", "abcdefg/", "abcdefg\u00ff", "a:", "a;"};
        NameMover x = new NameMover();
        for (String name : bad) {
            CHECKS.dueThrow("declare " + name, Checks.ARGUMENT, () -> x.declare(t(name), -1, false));
        }
        CHECKS.dueThrow("declare -1", Checks.ARGUMENT, () -> x.declare(-1L, -1, false));
        CHECKS.due("classes after refusals", 0, () -> x.classes());
    }

    private static void superclasses() {
        NameMover x = new NameMover();
        CHECKS.dueThrow("itself as superclass", Checks.INDEX, () -> x.declare(t("A"), 0, false));
        CHECKS.due("no superclass", 0, () -> x.declare(t("A"), -1, false));
        CHECKS.due("class 0 as superclass", 1, () -> x.declare(t("B"), 0, true));
        CHECKS.dueThrow("class 2 as superclass", Checks.INDEX, () -> x.declare(t("C"), 2, false));
        CHECKS.dueThrow("class -2 as superclass", Checks.INDEX, () -> x.declare(t("C"), -2, false));
        CHECKS.dueThrow("the least class as superclass", Checks.INDEX, () -> x.declare(t("C"), Integer.MIN_VALUE, false));
        CHECKS.dueThrow("the greatest class as superclass", Checks.INDEX, () -> x.declare(t("C"), Integer.MAX_VALUE, false));
        CHECKS.due("classes", 2, () -> x.classes());
    }

    private static void statesThatRefuseAClass() {
        NameMover x = new NameMover();
        x.declare(t("A"), -1, false);
        CHECKS.dueThrow("the same name again", Checks.STATE, () -> x.declare(t("A"), -1, true));
        x.moveClass(0, t("B"));
        CHECKS.dueThrow("declare while a class moves", Checks.STATE, () -> x.declare(t("C"), -1, false));
        x.cancel();
        x.member(0, t("f"), t("I"), false);
        x.moveMember(0, 0, t("g"));
        CHECKS.dueThrow("declare while a member moves", Checks.STATE, () -> x.declare(t("C"), -1, false));
        x.moveMember(0, 0, t("f"));
        for (int c = 1; c < 8; c++) {
            int number = c;
            CHECKS.due("class " + c, c, () -> x.declare(t("A" + number), number - 1, false));
        }
        CHECKS.dueThrow("the ninth class", Checks.STATE, () -> x.declare(t("C"), -1, false));
        CHECKS.due("classes", 8, () -> x.classes());
    }

    private static void orderOfExceptionsOfDeclare() {
        NameMover x = new NameMover();
        x.declare(t("A"), -1, false);
        x.moveClass(0, t("B"));
        CHECKS.dueThrow("no name, no superclass, moving", Checks.ARGUMENT, () -> x.declare(t("1"), 7, false));
        CHECKS.dueThrow("no superclass, moving", Checks.INDEX, () -> x.declare(t("A"), 7, false));
        CHECKS.dueThrow("moving", Checks.STATE, () -> x.declare(t("A"), 0, false));
    }

    private static void identifiers() {
        NameMover x = new NameMover();
        x.declare(t("A"), -1, false);
        int k = 0;
        for (String name : new String[] {"a", "Z", "x9", "abcdefgh", "A0000000"}) {
            CHECKS.due("member " + name, k, () -> x.member(0, t(name), t("I"), false));
            int number = k++;
            CHECKS.dueText("its name", name, () -> x.memberName(0, number, false));
            CHECKS.dueText("its new name", name, () -> x.memberName(0, number, true));
        }
        for (String name : new String[] {"", "9", "9a", "a/b", "a b", "a\u0000b", "a_", "\u00e4"}) {
            CHECKS.dueThrow("member " + name, Checks.ARGUMENT, () -> x.member(0, t(name), t("I"), false));
        }
        CHECKS.dueThrow("member -1", Checks.ARGUMENT, () -> x.member(0, -1L, t("I"), false));
        CHECKS.due("the sixth member", 5, () -> x.member(0, t("q"), t("I"), false));
    }

    private static void tryDescriptors(boolean good, String... descriptors) {
        for (String descriptor : descriptors) {
            NameMover x = new NameMover();
            x.declare(t("A"), -1, false);
            x.declare(t("B"), -1, false);
            if (good) {
                CHECKS.due("descriptor " + descriptor, 0, () -> x.member(0, t("m"), t(descriptor), false));
            } else {
                CHECKS.dueThrow("descriptor " + descriptor, Checks.ARGUMENT,
                        () -> x.member(0, t("m"), t(descriptor), false));
                CHECKS.dueThrow("no member after it", Checks.INDEX, () -> x.memberName(0, 0, false));
            }
        }
    }

    private static void fieldDescriptors() {
        tryDescriptors(true, "I", "J", "Z", "0", "1", "[I", "[1", "[[J", "[[[[[[[I", "[[[[[[[0");
        tryDescriptors(false, "", "V", "2", "7", "8", "9", "[", "[[", "[V", "[[[[[[[[", "II", "I[", "A", "i", "LA;",
                "I\u0000I", "[\u0000I", "I)", "IIIIIIII", "/", ":", "B", "[2");
    }

    private static void methodDescriptors() {
        tryDescriptors(true, "()V", "()I", "()0", "()[[I", "(I)V", "(IJZ01)V", "([I[J)Z", "(IIIII)I", "([[[[I)V",
                "()[[[[[J", "(1)1", "(01010)1", "()[[[[[1");
        tryDescriptors(false, "(", "()", ")", ")V", "(V)V", "(I", "(I)", "(I)VV", "(I)II", "(I)[", "(I)[V", "(2)V",
                "()2", "(()V)V", "()()V", "((I)V", "(I))V", "([)V", "(IIIIII)", "(IIIIIII", "([[[[[[[", "([[[[[)I",
                "()V\u0000V", "(\u0000)V", "()\u0000V", "()W", "V()", "I()V", "()(");
    }

    private static void descriptorsOfClassesThatAreThere() {
        NameMover x = new NameMover();
        x.declare(t("A"), -1, false);
        CHECKS.dueThrow("class 1 is not there", Checks.ARGUMENT, () -> x.member(0, t("m"), t("1"), false));
        for (int c = 1; c < 8; c++) {
            x.declare(t("A" + c), -1, false);
        }
        CHECKS.due("class 7 is there", 0, () -> x.member(0, t("m"), t("(7)7"), false));
        CHECKS.dueThrow("class 8 is none", Checks.ARGUMENT, () -> x.member(0, t("m"), t("8"), false));
        CHECKS.dueThrow("class 9 is none", Checks.ARGUMENT, () -> x.member(0, t("m"), t("(9)V"), false));
    }

    private static void statesThatRefuseAMember() {
        NameMover x = new NameMover();
        x.declare(t("A"), -1, false);
        x.declare(t("B"), 0, false);
        x.member(0, t("m"), t("()V"), false);
        CHECKS.dueThrow("the same again", Checks.STATE, () -> x.member(0, t("m"), t("()V"), true));
        CHECKS.due("another descriptor", 1, () -> x.member(0, t("m"), t("()I"), false));
        CHECKS.due("another name", 2, () -> x.member(0, t("n"), t("()V"), false));
        CHECKS.due("another class", 0, () -> x.member(1, t("m"), t("()V"), false));
        x.moveMember(0, 1, t("o"));
        CHECKS.dueThrow("member while a member moves", Checks.STATE, () -> x.member(0, t("p"), t("I"), false));
        x.cancel();
        x.moveClass(1, t("C"));
        CHECKS.dueThrow("member while a class moves", Checks.STATE, () -> x.member(0, t("p"), t("I"), false));
        x.moveClass(1, t("B"));
        for (int k = 3; k < 6; k++) {
            int number = k;
            CHECKS.due("member " + k, k, () -> x.member(0, t("p" + number), t("I"), false));
        }
        CHECKS.dueThrow("the seventh member", Checks.STATE, () -> x.member(0, t("p6"), t("I"), false));
        CHECKS.due("a member of the other class", 1, () -> x.member(1, t("p6"), t("I"), false));
    }

    private static void orderOfExceptionsOfMember() {
        NameMover x = new NameMover();
        CHECKS.dueThrow("member of no class", Checks.INDEX, () -> x.member(0, t("1"), t("V"), false));
        x.declare(t("A"), -1, false);
        x.moveClass(0, t("B"));
        CHECKS.dueThrow("no class, no name", Checks.INDEX, () -> x.member(1, t("1"), t("V"), false));
        CHECKS.dueThrow("class -1", Checks.INDEX, () -> x.member(-1, t("m"), t("I"), false));
        CHECKS.dueThrow("no name, moving", Checks.ARGUMENT, () -> x.member(0, t("1"), t("I"), false));
        CHECKS.dueThrow("no descriptor, moving", Checks.ARGUMENT, () -> x.member(0, t("m"), t("V"), false));
        CHECKS.dueThrow("moving", Checks.STATE, () -> x.member(0, t("m"), t("I"), false));
    }

    private static void namesAndNewNames() {
        NameMover x = new NameMover();
        x.declare(t("a/A"), -1, false);
        x.member(0, t("m"), t("I"), false);
        x.moveClass(0, t("a/B"));
        x.moveMember(0, 0, t("n"));
        CHECKS.dueText("name of the class", "a/A", () -> x.className(0, false));
        CHECKS.dueText("new name of the class", "a/B", () -> x.className(0, true));
        CHECKS.dueText("name of the member", "m", () -> x.memberName(0, 0, false));
        CHECKS.dueText("new name of the member", "n", () -> x.memberName(0, 0, true));
        for (int c : new int[] {-1, 1, 8, Integer.MIN_VALUE, Integer.MAX_VALUE}) {
            CHECKS.dueThrow("className of " + c, Checks.INDEX, () -> x.className(c, true));
            CHECKS.dueThrow("memberName of class " + c, Checks.INDEX, () -> x.memberName(c, 0, true));
            CHECKS.dueThrow("memberName of member " + c, Checks.INDEX, () -> x.memberName(0, c, false));
        }
    }
}
