/** Promise 7: problem, and with it what promise 8 refuses. */
public final class ProblemTest {
    private static final Checks CHECKS = new Checks();

    private static long t(String characters) {
        return Checks.text(characters);
    }

    public static void main(String[] args) {
        CHECKS.all(
                ProblemTest::libraryClasses,
                ProblemTest::libraryMembers,
                ProblemTest::classesThatBecomeOne,
                ProblemTest::packagesThatPartOrMeet,
                ProblemTest::membersThatBecomeOne,
                ProblemTest::membersThatDoNot,
                ProblemTest::membersOfOtherDescriptors,
                ProblemTest::membersOfOneName,
                ProblemTest::theLeastIsTold,
                ProblemTest::theLeastOfOneKind,
                ProblemTest::noneWhereNothingMoves,
                ProblemTest::theLastNumbers,
                ProblemTest::theOneLessIsX,
                ProblemTest::librariesCountAmongPackages,
                ProblemTest::librariesCountAmongMembers,
                ProblemTest::allMovesOfThreePackages);
    }

    private static void dueProblem(NameMover x, String what, int want) {
        CHECKS.due(what, want, () -> x.problem());
        if (want != 0) {
            CHECKS.dueThrow("apply: " + what, Checks.STATE, () -> x.apply());
            CHECKS.due("still: " + what, want, () -> x.problem());
        }
    }

    private static void libraryClasses() {
        CHECKS.sentence("1: x is a library class with a new name that is not its name");
        NameMover x = new NameMover();
        x.declare(t("A"), -1, false);
        x.declare(t("B"), -1, true);
        x.declare(t("C"), -1, true);
        x.moveClass(2, t("D"));
        dueProblem(x, "library class 2", 10200);
        x.moveClass(1, t("E"));
        dueProblem(x, "library class 1", 10100);
        x.moveClass(1, t("B"));
        x.moveClass(2, t("C"));
        dueProblem(x, "both have their names", 0);
        x.moveClass(0, t("F"));
        dueProblem(x, "another class", 0);
    }

    private static void libraryMembers() {
        CHECKS.sentence("2: x is a member of a library class with a new name that is not its name");
        NameMover x = new NameMover();
        x.declare(t("A"), -1, false);
        x.declare(t("B"), -1, true);
        x.declare(t("C"), 1, false);
        x.member(1, t("f"), t("I"), false);
        x.member(1, t("m"), t("()V"), false);
        x.member(2, t("m"), t("()V"), false);
        x.member(2, t("g"), t("I"), false);
        x.moveMember(2, 1, t("h"));
        dueProblem(x, "a member of no library class", 0);
        x.moveMember(2, 0, t("n"));
        dueProblem(x, "library member 9", 20900);
        x.moveMember(1, 0, t("k"));
        dueProblem(x, "library member 8", 20800);
        x.moveMember(1, 0, t("f"));
        x.moveMember(1, 1, t("m"));
        dueProblem(x, "both have their names", 0);
    }

    private static void classesThatBecomeOne() {
        CHECKS.sentence("3: x and y are classes, x less than y, with the same new name");
        NameMover x = new NameMover();
        x.declare(t("A"), -1, false);
        x.declare(t("B"), -1, false);
        x.declare(t("C"), -1, false);
        x.moveClass(2, t("B"));
        dueProblem(x, "2 becomes 1", 30102);
        x.moveClass(0, t("B"));
        dueProblem(x, "all become one", 30001);
        x.moveClass(1, t("X"));
        dueProblem(x, "0 and 2 become one", 30002);
        x.moveClass(2, t("A"));
        dueProblem(x, "names go round", 0);
        CHECKS.due("apply", 3, () -> x.apply());
    }

    private static void packagesThatPartOrMeet() {
        CHECKS.sentence("4: .. whose names have the same package but whose new names have not, or the other way round");
        NameMover x = new NameMover();
        x.declare(t("a/A"), -1, false);
        x.declare(t("a/B"), -1, false);
        x.declare(t("b/C"), -1, false);
        x.declare(t("D"), -1, false);
        x.moveClass(1, t("c/B"));
        dueProblem(x, "0 and 1 part", 40001);
        x.moveClass(0, t("c/A"));
        dueProblem(x, "both go", 0);
        x.moveClass(2, t("c/C"));
        dueProblem(x, "0 and 2 meet", 40002);
        x.moveClass(2, t("a/C"));
        dueProblem(x, "the package's name is free", 0);
        x.moveClass(3, t("a/D"));
        dueProblem(x, "2 and 3 meet", 40203);
        x.moveClass(2, t("C"));
        dueProblem(x, "2 and 3 change places", 0);
        x.moveClass(3, t("c/x/D"));
        dueProblem(x, "a package in a package is another", 0);
        CHECKS.due("apply", 4, () -> x.apply());
    }

    private static void membersThatBecomeOne() {
        CHECKS.sentence("5: .. of one class or of a class and one of its ancestors, with the same descriptor and the same new name");
        NameMover x = new NameMover();
        x.declare(t("A"), -1, false);
        x.declare(t("B"), 0, false);
        x.declare(t("C"), 1, false);
        x.member(0, t("f"), t("I"), false);
        x.member(0, t("g"), t("I"), false);
        x.member(2, t("h"), t("I"), false);
        x.moveMember(0, 1, t("f"));
        dueProblem(x, "in one class", 50001);
        x.moveMember(0, 1, t("h"));
        dueProblem(x, "an ancestor's", 50116);
        x.moveMember(0, 1, t("g"));
        x.moveMember(2, 0, t("f"));
        dueProblem(x, "becomes the ancestor's", 50016);
        x.moveMember(0, 0, t("k"));
        dueProblem(x, "the ancestor's goes away", 0);
        x.moveMember(2, 0, t("k"));
        dueProblem(x, "both become a third", 50016);
        x.cancel();
        x.member(1, t("m"), t("()V"), true);
        x.member(2, t("n"), t("()V"), false);
        x.moveMember(2, 1, t("m"));
        dueProblem(x, "a fixed one", 50817);
    }

    private static void membersThatDoNot() {
        CHECKS.sentence("5: .. with the same descriptor and the same new name, but not the same name");
        NameMover x = new NameMover();
        x.declare(t("A"), -1, false);
        x.declare(t("B"), 0, false);
        x.declare(t("C"), 0, false);
        x.member(0, t("f"), t("I"), false);
        x.member(0, t("f"), t("J"), false);
        x.member(1, t("g"), t("I"), false);
        x.member(1, t("f"), t("I"), false);
        x.member(2, t("h"), t("I"), false);
        x.moveMember(1, 0, t("h"));
        dueProblem(x, "siblings", 0);
        x.moveMember(0, 1, t("k"));
        dueProblem(x, "no other has the name", 0);
        x.moveMember(0, 0, t("k"));
        dueProblem(x, "another descriptor", 0);
        x.moveMember(1, 1, t("k"));
        dueProblem(x, "the same name before", 0);
        CHECKS.due("apply", 4, () -> x.apply());
        x.moveMember(1, 1, t("f"));
        CHECKS.due("fields of the same name part", 1, () -> x.apply());
        x.moveMember(1, 1, t("k"));
        dueProblem(x, "but they do not meet again", 50009);
    }

    private static void membersOfOtherDescriptors() {
        CHECKS.sentence("5: .. with the same descriptor");
        String[][] pairs = {{"I", "J"}, {"J", "I"}, {"I", "[I"}, {"()V", "()I"}, {"(I)V", "(J)V"}, {"0", "1"}, {"I", "()I"}};
        for (String[] pair : pairs) {
            for (int owner : new int[] {0, 1, 2}) {
                NameMover x = new NameMover();
                x.declare(t("A"), -1, false);
                x.declare(t("B"), 0, false);
                x.declare(t("C"), 1, false);
                x.member(0, t("f"), t(pair[0]), false);
                int k = x.member(owner, t("g"), t(pair[1]), false);
                x.moveMember(0, 0, t("g"));
                dueProblem(x, "one becomes the other", 0);
                x.moveMember(owner, k, t("h"));
                x.moveMember(0, 0, t("h"));
                dueProblem(x, "both become a third", 0);
                CHECKS.due("apply", 2, () -> x.apply());
            }
        }
    }

    private static void theLeastIsTold() {
        CHECKS.sentence("Of several the one with the least number is told");
        NameMover x = new NameMover();
        x.declare(t("A"), -1, true);
        x.declare(t("B"), -1, false);
        x.declare(t("C"), -1, false);
        x.member(0, t("f"), t("I"), false);
        x.member(2, t("f"), t("I"), false);
        x.member(2, t("g"), t("I"), false);
        x.moveMember(2, 1, t("f"));
        dueProblem(x, "kind 5", 51617);
        x.moveClass(2, t("q/B"));
        dueProblem(x, "kind 4 before 5", 40002);
        x.moveClass(1, t("q/B"));
        dueProblem(x, "kind 3 before 4", 30102);
        x.moveMember(0, 0, t("k"));
        dueProblem(x, "kind 2 before 3", 20000);
        x.moveClass(0, t("q/B"));
        dueProblem(x, "kind 1 before 2", 10000);
        CHECKS.due("cancel", 5, () -> x.cancel());
        dueProblem(x, "none is left", 0);
    }

    private static void membersOfOneName() {
        CHECKS.sentence("5: .. but not the same name");
        boolean[][] pairs = {{true, true}, {true, false}, {false, true}};
        for (boolean[] pair : pairs) {
            NameMover x = chainOfEight();
            x.member(0, t("m"), t("()V"), pair[0]);
            x.member(5, t("m"), t("()V"), pair[1]);
            dueProblem(x, "they have one name", 0);
            x.moveMember(0, 0, t("n"));
            dueProblem(x, "one of them goes", 0);
            x.moveMember(5, 0, t("n"));
            dueProblem(x, "both go to the same new name", 0);
            CHECKS.due("apply", 2, () -> x.apply());
        }
    }

    private static NameMover chainOfEight() {
        NameMover x = new NameMover();
        for (int c = 0; c < 8; c++) {
            x.declare(t("C" + c), c - 1, false);
        }
        return x;
    }

    private static void theLeastOfOneKind() {
        CHECKS.sentence("Of several the one with the least number is told");
        NameMover x = chainOfEight();
        x.moveClass(2, t("C1"));
        dueProblem(x, "1 and 2", 30102);
        x.moveClass(3, t("C0"));
        dueProblem(x, "0 and 3 before 1 and 2", 30003);
        x.cancel();
        x.moveClass(1, t("a/B"));
        x.moveClass(2, t("a/C"));
        dueProblem(x, "0 and 1 part before 3 and 1 do", 40001);
        x.moveClass(0, t("a/A"));
        dueProblem(x, "0 and 3 part before 1 and 3 do", 40003);
        x.cancel();
        for (int k = 0; k < 4; k++) {
            x.member(0, t("f" + k), t("I"), false);
            x.member(4, t("g" + k), t("I"), false);
        }
        x.moveMember(0, 2, t("f1"));
        dueProblem(x, "1 and 2", 50102);
        x.moveMember(4, 3, t("f0"));
        dueProblem(x, "0 and 35 before 1 and 2", 50035);
        x.moveMember(0, 3, t("f0"));
        dueProblem(x, "0 and 3 before 0 and 35", 50003);
    }

    private static void noneWhereNothingMoves() {
        CHECKS.sentence("The problem; 0 when there is none");
        NameMover x = new NameMover();
        dueProblem(x, "no classes", 0);
        x.declare(t("a/A"), -1, true);
        x.declare(t("a/B"), 0, false);
        x.member(0, t("m"), t("()V"), false);
        x.member(1, t("m"), t("()V"), false);
        dueProblem(x, "nothing moves", 0);
        x.moveMember(1, 0, t("n"));
        dueProblem(x, "a library member moves", 20000);
        x.cancel();
        dueProblem(x, "nothing moves again", 0);
    }

    private static void theLastNumbers() {
        CHECKS.sentence("it is told as 10000 * kind + 100 * x + y (y is 0 where there is none)");
        NameMover x = new NameMover();
        for (int c = 0; c < 8; c++) {
            x.declare(t("C" + c), c - 1, c == 7);
        }
        for (int c = 0; c < 8; c += 7) {
            for (int k = 0; k < 6; k++) {
                x.member(c, t("f" + c + k), t("I"), false);
            }
        }
        x.moveClass(7, t("D"));
        dueProblem(x, "kind 1, class 7", 10700);
        x.cancel();
        x.moveMember(7, 5, t("g"));
        dueProblem(x, "kind 2, member 61", 26100);
        x.cancel();
        x.moveClass(6, t("C7"));
        dueProblem(x, "kind 3, classes 6 and 7", 30607);
        x.cancel();
        x.moveMember(0, 5, t("f75"));
        dueProblem(x, "kind 5, members 5 and 61", 50561);
        NameMover y = new NameMover();
        for (int c = 0; c < 8; c++) {
            y.declare(t("p" + c + "/A"), -1, false);
        }
        y.moveClass(7, t("p6/B"));
        dueProblem(y, "kind 4, classes 6 and 7", 40607);
        y.cancel();
        for (int k = 0; k < 6; k++) {
            y.member(7, t("f" + k), t("I"), false);
        }
        y.moveMember(7, 4, t("f5"));
        dueProblem(y, "kind 5, members 60 and 61", 56061);
    }

    private static void theOneLessIsX() {
        CHECKS.sentence("x and y are classes, x less than y .. x and y are members, x less than y");
        for (int mover : new int[] {2, 5}) {
            NameMover x = chainOfEight();
            x.member(2, t("f"), t("I"), false);
            x.member(5, t("g"), t("I"), false);
            x.moveClass(mover, t(mover == 2 ? "C5" : "C2"));
            dueProblem(x, "class " + mover + " goes to the other", 30205);
            x.cancel();
            x.moveMember(mover, 0, t(mover == 2 ? "g" : "f"));
            dueProblem(x, "the member of " + mover + " goes to the other", 51640);
            NameMover y = new NameMover();
            for (int c = 0; c < 6; c++) {
                y.declare(t("p" + c % 5 + "/A" + c), -1, false);
            }
            y.moveClass(mover == 2 ? 0 : 5, t("q/A"));
            dueProblem(y, "one of them leaves the package", 40005);
        }
    }

    private static void librariesCountAmongPackages() {
        CHECKS.sentence("4: x and y are classes");
        NameMover x = new NameMover();
        x.declare(t("a/A"), -1, true);
        x.declare(t("a/B"), -1, false);
        x.declare(t("b/C"), -1, true);
        x.movePackage(t("a"), t("c"));
        dueProblem(x, "what is left in the package is a library class", 40001);
        x.cancel();
        x.moveClass(1, t("a/C"));
        dueProblem(x, "it stays in the package", 0);
        x.moveClass(1, t("b/B"));
        dueProblem(x, "it leaves one and meets another", 40001);
    }

    private static void librariesCountAmongMembers() {
        CHECKS.sentence("5: x and y are members");
        NameMover x = new NameMover();
        x.declare(t("A"), -1, true);
        x.declare(t("B"), 0, false);
        x.member(0, t("m"), t("()V"), true);
        x.member(1, t("n"), t("()V"), false);
        x.member(1, t("o"), t("()V"), true);
        x.moveMember(1, 0, t("m"));
        dueProblem(x, "the name of a fixed library member", 50008);
        x.moveMember(1, 0, t("n"));
        x.moveMember(1, 1, t("m"));
        dueProblem(x, "a fixed one becomes another fixed one", 50009);
    }

    /** Three classes, each in one of three packages and going to one of three. */
    private static void allMovesOfThreePackages() {
        CHECKS.sentence("whose names have the same package but whose new names have not, or the other way round");
        String[] packages = {"", "a/", "a/b/"};
        for (int choice = 0; choice < 729; choice++) {
            int[] old = {choice % 3, choice / 3 % 3, choice / 9 % 3};
            int[] fresh = {choice / 27 % 3, choice / 81 % 3, choice / 243};
            NameMover x = new NameMover();
            for (int c = 0; c < 3; c++) {
                x.declare(t(packages[old[c]] + "A" + c), -1, false);
            }
            for (int c = 0; c < 3; c++) {
                x.moveClass(c, t(packages[fresh[c]] + "A" + c));
            }
            dueProblem(x, "packages " + choice, packageProblem(old, fresh));
        }
    }

    private static int packageProblem(int[] old, int[] fresh) {
        int least = 0;
        for (int x = 2; x >= 0; x--) {
            for (int y = 2; y > x; y--) {
                if (old[x] == old[y] != (fresh[x] == fresh[y])) {
                    least = 40000 + 100 * x + y;
                }
            }
        }
        return least;
    }
}
