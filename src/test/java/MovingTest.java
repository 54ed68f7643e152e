/** Promises 4, 5, 6, 8, 9 and 13: moveClass, movePackage, moveMember, apply, cancel, find. */
public final class MovingTest {
    private static final Checks CHECKS = new Checks();

    private static long t(String characters) {
        return Checks.text(characters);
    }

    public static void main(String[] args) {
        CHECKS.all(
                MovingTest::movingAClass,
                MovingTest::movingAPackage,
                MovingTest::packagesThatAreNone,
                MovingTest::packagesThatAreTooLong,
                MovingTest::movingAFamily,
                MovingTest::whatIsNoFamily,
                MovingTest::familiesOfSiblings,
                MovingTest::familiesInLibraries,
                MovingTest::familiesGoByNames,
                MovingTest::wrongMembers,
                MovingTest::applying,
                MovingTest::cancelling,
                MovingTest::finding);
    }

    private static void movingAClass() {
        NameMover x = new NameMover();
        CHECKS.dueNotDone("moveClass of no class", Checks.INDEX, () -> x.moveClass(0, t("A")));
        x.declare(t("A"), -1, false);
        CHECKS.dueDone("moveClass", () -> x.moveClass(0, t("b/C")));
        CHECKS.dueText("its new name", "b/C", () -> x.className(0, true));
        CHECKS.dueText("its name", "A", () -> x.className(0, false));
        CHECKS.dueNotDone("moveClass to no name", Checks.ARGUMENT, () -> x.moveClass(0, t("b/")));
        CHECKS.dueNotDone("moveClass to the empty text", Checks.ARGUMENT, () -> x.moveClass(0, 0L));
        CHECKS.dueNotDone("moveClass of class -1", Checks.INDEX, () -> x.moveClass(-1, t("b/")));
        CHECKS.dueNotDone("moveClass of class 1", Checks.INDEX, () -> x.moveClass(1, t("b/")));
        CHECKS.dueText("its new name stays", "b/C", () -> x.className(0, true));
        CHECKS.dueDone("moveClass back", () -> x.moveClass(0, t("A")));
        CHECKS.due("it does not move", 1, () -> x.declare(t("B"), -1, false));
    }

    private static void movingAPackage() {
        NameMover x = new NameMover();
        x.declare(t("a/A"), -1, false);
        x.declare(t("a/b/B"), -1, false);
        x.declare(t("C"), -1, false);
        x.declare(t("a/D"), -1, true);
        x.declare(t("a/E2"), 0, false);
        x.declare(t("aa/F"), -1, false);
        x.moveClass(4, t("zzz"));
        CHECKS.due("movePackage a to bc", 2, () -> x.movePackage(t("a"), t("bc")));
        CHECKS.dueText("class 0 goes along", "bc/A", () -> x.className(0, true));
        CHECKS.dueText("class 1 is in another package", "a/b/B", () -> x.className(1, true));
        CHECKS.dueText("class 2 is in none", "C", () -> x.className(2, true));
        CHECKS.dueText("class 3 is a library class", "a/D", () -> x.className(3, true));
        CHECKS.dueText("class 4 goes, whatever its new name was", "bc/E2", () -> x.className(4, true));
        CHECKS.dueText("class 5 is in another package", "aa/F", () -> x.className(5, true));
        CHECKS.due("it goes by names, not by new names", 0, () -> x.movePackage(t("bc"), t("d")));
        CHECKS.due("to no package", 1, () -> x.movePackage(t("a/b"), 0L));
        CHECKS.dueText("class 1 is in none", "B", () -> x.className(1, true));
        CHECKS.due("from no package", 1, () -> x.movePackage(0L, t("x/y/z")));
        CHECKS.dueText("class 2", "x/y/z/C", () -> x.className(2, true));
        CHECKS.due("to itself", 2, () -> x.movePackage(t("a"), t("a")));
        CHECKS.dueText("class 4 has its name again", "a/E2", () -> x.className(4, true));
        CHECKS.due("from none to none", 1, () -> x.movePackage(0L, 0L));
        CHECKS.due("the new name of class 1 is left, and none else", 1, () -> x.cancel());
        CHECKS.due("a package that nothing is in", 0, () -> x.movePackage(t("q"), t("abcdefgh")));
    }

    private static void packagesThatAreNone() {
        NameMover x = new NameMover();
        x.declare(t("a/A"), -1, false);
        for (String name : new String[] {"1", "/", "a/", "/a", "a//b", "a b", "a\u0000b"}) {
            CHECKS.dueThrow("movePackage from " + name, Checks.ARGUMENT, () -> x.movePackage(t(name), t("a")));
            CHECKS.dueThrow("movePackage to " + name, Checks.ARGUMENT, () -> x.movePackage(t("a"), t(name)));
            CHECKS.dueThrow("movePackage of nothing to " + name, Checks.ARGUMENT, () -> x.movePackage(t("q"), t(name)));
        }
        CHECKS.due("nothing moves", 0, () -> x.cancel());
    }

    private static void packagesThatAreTooLong() {
        NameMover x = new NameMover();
        x.declare(t("a/A"), -1, false);
        x.declare(t("a/Bb"), -1, false);
        CHECKS.dueThrow("one is too long", Checks.ARGUMENT, () -> x.movePackage(t("a"), t("abcdef")));
        CHECKS.dueText("none is set", "a/A", () -> x.className(0, true));
        CHECKS.dueThrow("all are too long", Checks.ARGUMENT, () -> x.movePackage(t("a"), t("abcdefgh")));
        CHECKS.dueThrow("seven characters and a slash", Checks.ARGUMENT, () -> x.movePackage(t("a"), t("abcdefg")));
        CHECKS.due("just not too long", 2, () -> x.movePackage(t("a"), t("ab/cd")));
        CHECKS.dueText("eight characters", "ab/cd/Bb", () -> x.className(1, true));
        CHECKS.dueText("seven characters", "ab/cd/A", () -> x.className(0, true));
        x.cancel();
        x.moveClass(1, t("Zzzzzzzz"));
        CHECKS.due("its new name does not count", 2, () -> x.movePackage(t("a"), t("abcde")));
        NameMover y = new NameMover();
        y.declare(t("abcdefgh"), -1, false);
        CHECKS.dueThrow("a class without a package", Checks.ARGUMENT, () -> y.movePackage(0L, t("a")));
        NameMover z = new NameMover();
        z.declare(t("a/Bbbb"), -1, true);
        CHECKS.due("a library class is never too long", 0, () -> z.movePackage(t("a"), t("abcdef")));
    }

    /** Class 0; class 1 under it; classes 2 and 3 under class 1; class 4 under class 3. */
    private static NameMover tree() {
        NameMover x = new NameMover();
        x.declare(t("A"), -1, false);
        x.declare(t("B"), 0, false);
        x.declare(t("C"), 1, false);
        x.declare(t("D"), 1, false);
        x.declare(t("E"), 3, false);
        return x;
    }

    private static void movingAFamily() {
        NameMover x = tree();
        x.member(0, t("m"), t("()V"), false);
        x.member(2, t("k"), t("I"), false);
        x.member(2, t("m"), t("()V"), false);
        x.member(3, t("m"), t("()I"), false);
        x.member(4, t("m"), t("()V"), false);
        CHECKS.due("moveMember of a cousin", 3, () -> x.moveMember(4, 0, t("n")));
        CHECKS.dueText("the top", "n", () -> x.memberName(0, 0, true));
        CHECKS.dueText("another cousin", "n", () -> x.memberName(2, 1, true));
        CHECKS.dueText("itself", "n", () -> x.memberName(4, 0, true));
        CHECKS.dueText("another descriptor", "m", () -> x.memberName(3, 0, true));
        CHECKS.dueText("another name", "k", () -> x.memberName(2, 0, true));
        CHECKS.dueText("names stay", "m", () -> x.memberName(0, 0, false));
        CHECKS.due("again, whatever new name they had", 3, () -> x.moveMember(0, 0, t("o")));
        CHECKS.dueText("a cousin", "o", () -> x.memberName(2, 1, true));
        CHECKS.due("three names", 3, () -> x.cancel());
    }

    private static void whatIsNoFamily() {
        NameMover x = tree();
        x.member(0, t("f"), t("I"), false);
        x.member(1, t("f"), t("I"), false);
        CHECKS.due("a field is a family by itself", 1, () -> x.moveMember(1, 0, t("g")));
        CHECKS.dueText("the other field", "f", () -> x.memberName(0, 0, true));
        x.cancel();
        x.member(0, t("m"), t("()V"), true);
        x.member(1, t("m"), t("()V"), false);
        x.member(3, t("m"), t("()V"), true);
        x.member(4, t("m"), t("()V"), false);
        CHECKS.due("a fixed method is a family by itself", 1, () -> x.moveMember(0, 1, t("n")));
        CHECKS.due("so is one between two that are not fixed", 1, () -> x.moveMember(3, 0, t("n")));
        x.cancel();
        CHECKS.due("those two are a family over it", 2, () -> x.moveMember(4, 0, t("n")));
        CHECKS.dueText("the fixed one above", "m", () -> x.memberName(0, 1, true));
        CHECKS.dueText("the fixed one between", "m", () -> x.memberName(3, 0, true));
        CHECKS.dueText("the one that goes along", "n", () -> x.memberName(1, 1, true));
    }

    private static void familiesOfSiblings() {
        NameMover x = tree();
        x.member(2, t("m"), t("()V"), false);
        x.member(3, t("m"), t("()V"), false);
        x.member(4, t("m"), t("()V"), false);
        CHECKS.due("siblings without an ancestor's method", 1, () -> x.moveMember(2, 0, t("n")));
        CHECKS.due("the other sibling with what is under it", 2, () -> x.moveMember(3, 0, t("o")));
        CHECKS.due("three names move", 3, () -> x.cancel());
        x.member(0, t("m"), t("()V"), true);
        CHECKS.due("a fixed ancestor's method joins nothing", 1, () -> x.moveMember(2, 0, t("n")));
        x.cancel();
        x.member(1, t("m"), t("()V"), false);
        CHECKS.due("an ancestor's method joins them", 4, () -> x.moveMember(2, 0, t("n")));
        CHECKS.due("from the top, too", 4, () -> x.moveMember(1, 0, t("n")));
    }

    private static void familiesInLibraries() {
        NameMover x = new NameMover();
        x.declare(t("A"), -1, true);
        x.declare(t("B"), 0, false);
        x.member(0, t("m"), t("()V"), false);
        x.member(1, t("m"), t("()V"), false);
        CHECKS.due("a family with a library class", 2, () -> x.moveMember(1, 0, t("n")));
        CHECKS.dueText("its member has the new name", "n", () -> x.memberName(0, 0, true));
        CHECKS.due("back again", 2, () -> x.moveMember(0, 0, t("m")));
        CHECKS.due("nothing moves", 0, () -> x.cancel());
    }

    private static void familiesGoByNames() {
        NameMover x = new NameMover();
        x.declare(t("A"), -1, false);
        x.declare(t("B"), 0, false);
        x.member(0, t("m"), t("()V"), false);
        x.member(1, t("n"), t("()V"), false);
        x.moveMember(1, 0, t("m"));
        CHECKS.due("a new name joins nothing", 1, () -> x.moveMember(0, 0, t("k")));
        CHECKS.dueText("the other keeps its own", "m", () -> x.memberName(1, 0, true));
        CHECKS.due("no problem", 0, () -> x.problem());
        CHECKS.due("apply", 2, () -> x.apply());
        CHECKS.dueThrow("the old name is gone", Checks.ELEMENT, () -> x.find(0, t("m"), t("()V")));
    }

    private static void wrongMembers() {
        NameMover x = new NameMover();
        CHECKS.dueThrow("moveMember of no class", Checks.INDEX, () -> x.moveMember(0, 0, t("a")));
        x.declare(t("A"), -1, false);
        x.member(0, t("m"), t("()V"), false);
        for (int k : new int[] {-1, 1, 6, 8, Integer.MIN_VALUE, Integer.MAX_VALUE}) {
            CHECKS.dueThrow("moveMember of member " + k, Checks.INDEX, () -> x.moveMember(0, k, t("1")));
            CHECKS.dueThrow("moveMember of class " + k, Checks.INDEX, () -> x.moveMember(k, 0, t("1")));
        }
        for (String name : new String[] {"", "1", "a/b", "a b"}) {
            CHECKS.dueThrow("moveMember to " + name, Checks.ARGUMENT, () -> x.moveMember(0, 0, t(name)));
        }
        CHECKS.due("nothing moves", 0, () -> x.cancel());
    }

    private static void applying() {
        NameMover x = tree();
        x.member(0, t("m"), t("(1)V"), false);
        x.member(1, t("m"), t("(1)V"), false);
        CHECKS.due("apply of nothing", 0, () -> x.apply());
        x.moveClass(1, t("B2"));
        x.moveMember(0, 0, t("n"));
        CHECKS.due("apply", 3, () -> x.apply());
        CHECKS.dueText("the class's name", "B2", () -> x.className(1, false));
        CHECKS.dueText("its new name", "B2", () -> x.className(1, true));
        CHECKS.dueText("the member's name", "n", () -> x.memberName(1, 0, false));
        CHECKS.due("nothing is left to do", 0, () -> x.apply());
        CHECKS.due("nothing is left to drop", 0, () -> x.cancel());
        CHECKS.due("it does not move", 5, () -> x.declare(t("B"), 1, false));
        x.moveClass(1, t("A"));
        CHECKS.dueThrow("apply with a problem", Checks.STATE, () -> x.apply());
        CHECKS.dueText("the name stays", "B2", () -> x.className(1, false));
        CHECKS.dueText("the new name stays", "A", () -> x.className(1, true));
        x.moveClass(0, t("B2"));
        CHECKS.due("two classes change places", 2, () -> x.apply());
        CHECKS.dueText("class 0", "B2", () -> x.className(0, false));
        CHECKS.dueText("class 1", "A", () -> x.className(1, false));
    }

    private static void cancelling() {
        NameMover x = tree();
        x.member(0, t("m"), t("()V"), false);
        x.moveClass(1, t("q/B"));
        x.moveClass(2, t("C"));
        x.moveMember(0, 0, t("n"));
        CHECKS.due("cancel", 2, () -> x.cancel());
        CHECKS.dueText("the class's new name", "B", () -> x.className(1, true));
        CHECKS.dueText("the member's new name", "m", () -> x.memberName(0, 0, true));
        CHECKS.dueText("the class's name", "B", () -> x.className(1, false));
        CHECKS.due("cancel again", 0, () -> x.cancel());
    }

    private static void finding() {
        NameMover x = tree();
        x.member(0, t("f"), t("I"), true);
        x.member(0, t("m"), t("()V"), false);
        x.member(1, t("m"), t("()V"), true);
        x.member(2, t("g"), t("J"), false);
        x.member(4, t("z"), t("Z"), false);
        x.member(4, t("f"), t("J"), false);
        CHECKS.due("its own", 33, () -> x.find(4, t("f"), t("J")));
        CHECKS.due("the highest ancestor's", 0, () -> x.find(4, t("f"), t("I")));
        CHECKS.due("the nearest ancestor's", 8, () -> x.find(4, t("m"), t("()V")));
        CHECKS.due("class 0's", 1, () -> x.find(0, t("m"), t("()V")));
        CHECKS.dueThrow("a sibling's", Checks.ELEMENT, () -> x.find(3, t("g"), t("J")));
        CHECKS.dueThrow("a descendant's", Checks.ELEMENT, () -> x.find(3, t("z"), t("Z")));
        CHECKS.dueThrow("another descriptor", Checks.ELEMENT, () -> x.find(0, t("m"), t("()I")));
        CHECKS.dueThrow("texts that are no names", Checks.ELEMENT, () -> x.find(0, 0L, -1L));
        x.moveMember(0, 0, t("ff"));
        CHECKS.due("by names", 0, () -> x.find(4, t("f"), t("I")));
        CHECKS.dueThrow("not by new names", Checks.ELEMENT, () -> x.find(4, t("ff"), t("I")));
        for (int c : new int[] {-1, 5, 8, Integer.MIN_VALUE, Integer.MAX_VALUE}) {
            CHECKS.dueThrow("find in class " + c, Checks.INDEX, () -> x.find(c, 0L, 0L));
        }
    }
}
