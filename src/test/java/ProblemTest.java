/** Promise 7: problem, and with it what promise 8 refuses. */
public final class ProblemTest {
    private static final Checks CHECKS = new Checks();

    private static long t(String characters) {
        return Checks.text(characters);
    }

    public static void main(String[] args) {
        libraryClasses();
        libraryMembers();
        classesThatBecomeOne();
        packagesThatPartOrMeet();
        membersThatBecomeOne();
        membersThatDoNot();
        theLeastIsTold();
        CHECKS.end();
    }

    private static void dueProblem(NameMover x, String what, int want) {
        CHECKS.due(what, want, () -> x.problem());
        if (want != 0) {
            CHECKS.dueThrow("apply: " + what, Checks.STATE, () -> x.apply());
            CHECKS.due("still: " + what, want, () -> x.problem());
        }
    }

    private static void libraryClasses() {
        NameMover x = new NameMover();
        x.declare(t("A"), -1, false);
        x.declare(t("B"), -1, true);
        x.declare(t("C"), -1, true);
        x.moveClass(2, t("D"));
        dueProblem(x, "library class 2", 10200);
        x.moveClass(1, t("E"));
        dueProblem(x, "library class 1", 10100);
        x.moveClass(1, t("B"));
        x.moveClass(2, t("C"));
        dueProblem(x, "both have their names", 0);
        x.moveClass(0, t("F"));
        dueProblem(x, "another class", 0);
    }

    private static void libraryMembers() {
        NameMover x = new NameMover();
        x.declare(t("A"), -1, false);
        x.declare(t("B"), -1, true);
        x.declare(t("C"), 1, false);
        x.member(1, t("f"), t("I"), false);
        x.member(1, t("m"), t("()V"), false);
        x.member(2, t("m"), t("()V"), false);
        x.member(2, t("g"), t("I"), false);
        x.moveMember(2, 1, t("h"));
        dueProblem(x, "a member of no library class", 0);
        x.moveMember(2, 0, t("n"));
        dueProblem(x, "library member 9", 20900);
        x.moveMember(1, 0, t("k"));
        dueProblem(x, "library member 8", 20800);
        x.moveMember(1, 0, t("f"));
        x.moveMember(1, 1, t("m"));
        dueProblem(x, "both have their names", 0);
    }

    private static void classesThatBecomeOne() {
        NameMover x = new NameMover();
        x.declare(t("A"), -1, false);
        x.declare(t("B"), -1, false);
        x.declare(t("C"), -1, false);
        x.moveClass(2, t("B"));
        dueProblem(x, "2 becomes 1", 30102);
        x.moveClass(0, t("B"));
        dueProblem(x, "all become one", 30001);
        x.moveClass(1, t("X"));
        dueProblem(x, "0 and 2 become one", 30002);
        x.moveClass(2, t("A"));
        dueProblem(x, "names go round", 0);
        CHECKS.due("apply", 3, () -> x.apply());
    }

    private static void packagesThatPartOrMeet() {
        NameMover x = new NameMover();
        x.declare(t("a/A"), -1, false);
        x.declare(t("a/B"), -1, false);
        x.declare(t("b/C"), -1, false);
        x.declare(t("D"), -1, false);
        x.moveClass(1, t("c/B"));
        dueProblem(x, "0 and 1 part", 40001);
        x.moveClass(0, t("c/A"));
        dueProblem(x, "both go", 0);
        x.moveClass(2, t("c/C"));
        dueProblem(x, "0 and 2 meet", 40002);
        x.moveClass(2, t("a/C"));
        dueProblem(x, "the package's name is free", 0);
        x.moveClass(3, t("a/D"));
        dueProblem(x, "2 and 3 meet", 40203);
        x.moveClass(2, t("C"));
        dueProblem(x, "2 and 3 change places", 0);
        x.moveClass(3, t("c/x/D"));
        dueProblem(x, "a package in a package is another", 0);
        CHECKS.due("apply", 4, () -> x.apply());
    }

    private static void membersThatBecomeOne() {
        NameMover x = new NameMover();
        x.declare(t("A"), -1, false);
        x.declare(t("B"), 0, false);
        x.declare(t("C"), 1, false);
        x.member(0, t("f"), t("I"), false);
        x.member(0, t("g"), t("I"), false);
        x.member(2, t("h"), t("I"), false);
        x.moveMember(0, 1, t("f"));
        dueProblem(x, "in one class", 50001);
        x.moveMember(0, 1, t("h"));
        dueProblem(x, "an ancestor's", 50116);
        x.moveMember(0, 1, t("g"));
        x.moveMember(2, 0, t("f"));
        dueProblem(x, "becomes the ancestor's", 50016);
        x.moveMember(0, 0, t("k"));
        dueProblem(x, "the ancestor's goes away", 0);
        x.moveMember(2, 0, t("k"));
        dueProblem(x, "both become a third", 50016);
        x.cancel();
        x.member(1, t("m"), t("()V"), true);
        x.member(2, t("n"), t("()V"), false);
        x.moveMember(2, 1, t("m"));
        dueProblem(x, "a fixed one", 50817);
    }

    private static void membersThatDoNot() {
        NameMover x = new NameMover();
        x.declare(t("A"), -1, false);
        x.declare(t("B"), 0, false);
        x.declare(t("C"), 0, false);
        x.member(0, t("f"), t("I"), false);
        x.member(0, t("f"), t("J"), false);
        x.member(1, t("g"), t("I"), false);
        x.member(1, t("f"), t("I"), false);
        x.member(2, t("h"), t("I"), false);
        x.moveMember(1, 0, t("h"));
        dueProblem(x, "siblings", 0);
        x.moveMember(0, 1, t("k"));
        dueProblem(x, "no other has the name", 0);
        x.moveMember(0, 0, t("k"));
        dueProblem(x, "another descriptor", 0);
        x.moveMember(1, 1, t("k"));
        dueProblem(x, "the same name before", 0);
        CHECKS.due("apply", 4, () -> x.apply());
        x.moveMember(1, 1, t("f"));
        CHECKS.due("fields of the same name part", 1, () -> x.apply());
        x.moveMember(1, 1, t("k"));
        dueProblem(x, "but they do not meet again", 50009);
    }

    private static void theLeastIsTold() {
        NameMover x = new NameMover();
        x.declare(t("A"), -1, true);
        x.declare(t("B"), -1, false);
        x.declare(t("C"), -1, false);
        x.member(0, t("f"), t("I"), false);
        x.member(2, t("f"), t("I"), false);
        x.member(2, t("g"), t("I"), false);
        x.moveMember(2, 1, t("f"));
        dueProblem(x, "kind 5", 51617);
        x.moveClass(2, t("q/B"));
        dueProblem(x, "kind 4 before 5", 40002);
        x.moveClass(1, t("q/B"));
        dueProblem(x, "kind 3 before 4", 30102);
        x.moveMember(0, 0, t("k"));
        dueProblem(x, "kind 2 before 3", 20000);
        x.moveClass(0, t("q/B"));
        dueProblem(x, "kind 1 before 2", 10000);
        CHECKS.due("cancel", 5, () -> x.cancel());
        dueProblem(x, "none is left", 0);
    }
}
