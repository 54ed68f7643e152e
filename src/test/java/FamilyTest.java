import java.util.ArrayList;
import java.util.Arrays;
import java.util.List;

/** The families of "Terms", which promise 6 moves: each sentence has a test of its own. */
public final class FamilyTest {
    private static final Checks CHECKS = new Checks();
    private static final int[] CHAIN = {-1, 0, 1, 2, 3, 4, 5, 6};
    /** Class 0; class 1 under it; classes 2 and 3 under class 1; class 4 under class 3; class 5 alone. */
    private static final int[] TREE = {-1, 0, 1, 1, 3, -1};

    private static long t(String characters) {
        return Checks.text(characters);
    }

    public static void main(String[] args) {
        CHECKS.all(
                FamilyTest::aClassAndItsAncestors,
                FamilyTest::overClassesWithoutIt,
                FamilyTest::theSameThirdOne,
                FamilyTest::aThirdOneThatIsFixed,
                FamilyTest::theSameName,
                FamilyTest::theSameDescriptor,
                FamilyTest::fieldsAreByThemselves,
                FamilyTest::fixedMethodsAreByThemselves,
                FamilyTest::byNamesNotByNewNames,
                FamilyTest::afterApply,
                FamilyTest::allSmallTrees);
    }

    private static NameMover classes(int[] superclasses) {
        NameMover x = new NameMover();
        for (int c = 0; c < superclasses.length; c++) {
            x.declare(t("C" + c), superclasses[c], false);
        }
        return x;
    }

    private static void methods(NameMover x, int... owners) {
        for (int c : owners) {
            x.member(c, t("m"), t("()V"), false);
        }
    }

    private static void aClassAndItsAncestors() {
        CHECKS.sentence("Two methods that are not fixed, with the same name and the same descriptor,"
                + " of a class and of one of its ancestors, are in one FAMILY");
        for (int c = 0; c < 8; c++) {
            NameMover x = classes(CHAIN);
            methods(x, 0, 1, 2, 3, 4, 5, 6, 7);
            int owner = c;
            CHECKS.due("a chain of eight, from class " + c, 8, () -> x.moveMember(owner, 0, t("n")));
            for (int other = 0; other < 8; other++) {
                int number = other;
                CHECKS.dueText("class " + other, "n", () -> x.memberName(number, 0, true));
            }
        }
    }

    private static void overClassesWithoutIt() {
        CHECKS.sentence("of a class and of one of its ancestors, are in one FAMILY");
        NameMover x = classes(CHAIN);
        methods(x, 7, 0);
        CHECKS.due("the last class and the first", 2, () -> x.moveMember(7, 0, t("n")));
        CHECKS.dueText("the first one's", "n", () -> x.memberName(0, 0, true));
        NameMover y = classes(TREE);
        methods(y, 2, 3, 5);
        CHECKS.due("siblings are none", 1, () -> y.moveMember(2, 0, t("n")));
        CHECKS.due("nor is a class alone", 1, () -> y.moveMember(5, 0, t("n")));
        CHECKS.dueText("the other sibling's", "m", () -> y.memberName(3, 0, true));
    }

    private static void theSameThirdOne() {
        CHECKS.sentence("whatever is in one family with the same third one is in one family");
        NameMover x = classes(TREE);
        methods(x, 2, 4, 0, 5);
        CHECKS.due("cousins by an ancestor of both", 3, () -> x.moveMember(2, 0, t("n")));
        CHECKS.dueText("the cousin's", "n", () -> x.memberName(4, 0, true));
        CHECKS.dueText("the ancestor's", "n", () -> x.memberName(0, 0, true));
        CHECKS.dueText("a stranger's", "m", () -> x.memberName(5, 0, true));
        CHECKS.due("from the cousin", 3, () -> x.moveMember(4, 0, t("o")));
        CHECKS.due("from the ancestor", 3, () -> x.moveMember(0, 0, t("p")));
        CHECKS.due("from the stranger", 1, () -> x.moveMember(5, 0, t("p")));
    }

    private static void aThirdOneThatIsFixed() {
        CHECKS.sentence("Two methods that are not fixed");
        NameMover x = classes(TREE);
        x.member(1, t("m"), t("()V"), true);
        methods(x, 2, 4, 0);
        CHECKS.due("a fixed one between does not part", 3, () -> x.moveMember(2, 0, t("n")));
        CHECKS.dueText("and does not go along", "m", () -> x.memberName(1, 0, true));
        NameMover y = classes(TREE);
        y.member(0, t("m"), t("()V"), true);
        methods(y, 2, 4);
        CHECKS.due("a fixed one above does not join", 1, () -> y.moveMember(2, 0, t("n")));
        CHECKS.dueText("its cousin's", "m", () -> y.memberName(4, 0, true));
    }

    private static void theSameName() {
        CHECKS.sentence("with the same name and the same descriptor");
        NameMover x = classes(CHAIN);
        methods(x, 0);
        for (String name : new String[] {"M", "mm", "n", "m0"}) {
            x.member(1, t(name), t("()V"), false);
        }
        for (int k = 0; k < 4; k++) {
            int member = k;
            CHECKS.due("another name", 1, () -> x.moveMember(1, member, t("z")));
        }
        CHECKS.dueText("the ancestor's", "m", () -> x.memberName(0, 0, true));
    }

    private static void theSameDescriptor() {
        CHECKS.sentence("with the same name and the same descriptor");
        NameMover x = classes(CHAIN);
        methods(x, 0);
        for (String descriptor : new String[] {"()I", "(I)V", "()0", "(0)V", "([I)V", "()[I"}) {
            x.member(1, t("m"), t(descriptor), false);
        }
        for (int k = 0; k < 6; k++) {
            int member = k;
            CHECKS.due("another descriptor", 1, () -> x.moveMember(1, member, t("z")));
        }
        CHECKS.dueText("the ancestor's", "m", () -> x.memberName(0, 0, true));
    }

    private static void fieldsAreByThemselves() {
        CHECKS.sentence("Each other member is a family by itself: a field");
        for (String descriptor : new String[] {"I", "J", "Z", "0", "[I", "[[0"}) {
            NameMover x = classes(CHAIN);
            x.member(0, t("f"), t(descriptor), false);
            x.member(1, t("f"), t(descriptor), false);
            CHECKS.due("the lower one", 1, () -> x.moveMember(1, 0, t("g")));
            CHECKS.dueText("the upper one stays", "f", () -> x.memberName(0, 0, true));
            CHECKS.due("the upper one", 1, () -> x.moveMember(0, 0, t("h")));
            CHECKS.dueText("the lower one stays", "g", () -> x.memberName(1, 0, true));
        }
    }

    private static void fixedMethodsAreByThemselves() {
        CHECKS.sentence("Each other member is a family by itself: a fixed method");
        boolean[][] pairs = {{true, true}, {true, false}, {false, true}};
        for (boolean[] pair : pairs) {
            NameMover x = classes(CHAIN);
            x.member(0, t("m"), t("()V"), pair[0]);
            x.member(1, t("m"), t("()V"), pair[1]);
            CHECKS.due("the lower one", 1, () -> x.moveMember(1, 0, t("n")));
            CHECKS.dueText("the upper one stays", "m", () -> x.memberName(0, 0, true));
            CHECKS.due("the upper one", 1, () -> x.moveMember(0, 0, t("o")));
            CHECKS.dueText("the lower one stays", "n", () -> x.memberName(1, 0, true));
        }
    }

    private static void byNamesNotByNewNames() {
        CHECKS.sentence("(by names, not by new names)");
        NameMover x = classes(CHAIN);
        methods(x, 0, 1);
        x.member(1, t("n"), t("()V"), false);
        CHECKS.due("its new name is that of the family", 1, () -> x.moveMember(1, 1, t("m")));
        CHECKS.due("it does not join it", 2, () -> x.moveMember(0, 0, t("o")));
        CHECKS.dueText("it keeps its new name", "m", () -> x.memberName(1, 1, true));
        CHECKS.due("new names do not part it", 2, () -> x.moveMember(1, 0, t("p")));
    }

    private static void afterApply() {
        CHECKS.sentence("(by names, not by new names), when the new ones have become the names");
        NameMover x = classes(TREE);
        methods(x, 2, 3);
        x.member(0, t("n"), t("()V"), false);
        x.moveMember(2, 0, t("k"));
        CHECKS.due("apply", 1, () -> x.apply());
        x.moveMember(0, 0, t("m"));
        CHECKS.due("the ancestor's name would become its descendant's", 50024, () -> x.problem());
        x.cancel();
        x.member(1, t("m"), t("()V"), false);
        CHECKS.due("a new method joins what has its name", 2, () -> x.moveMember(1, 0, t("o")));
        CHECKS.due("not what had it", 1, () -> x.moveMember(2, 0, t("o")));
    }

    /** Each tree of four classes, each with no method, one, or a fixed one. */
    private static void allSmallTrees() {
        CHECKS.sentence("whatever is in one family with the same third one is in one family, in all trees of four");
        for (int tree = 0; tree < 24; tree++) {
            int[] superclasses = {-1, tree % 2 - 1, tree / 2 % 3 - 1, tree / 6 - 1};
            for (int choice = 0; choice < 81; choice++) {
                int[] kinds = {choice % 3, choice / 3 % 3, choice / 9 % 3, choice / 27};
                trySmallTree(superclasses, kinds);
            }
        }
    }

    private static void trySmallTree(int[] superclasses, int[] kinds) {
        String what = Arrays.toString(superclasses) + Arrays.toString(kinds);
        for (int first = 0; first < 4; first++) {
            if (kinds[first] == 0) {
                continue;
            }
            NameMover x = classes(superclasses);
            for (int c = 0; c < 4; c++) {
                if (kinds[c] != 0) {
                    x.member(c, t("m"), t("()V"), kinds[c] == 2);
                }
            }
            int owner = first;
            List<Integer> family = family(superclasses, kinds, first);
            CHECKS.due(what + " from " + first, family.size(), () -> x.moveMember(owner, 0, t("n")));
            for (int c = 0; c < 4; c++) {
                int other = c;
                if (kinds[c] != 0) {
                    CHECKS.dueText(what + " from " + first + " to " + c, family.contains(c) ? "n" : "m",
                            () -> x.memberName(other, 0, true));
                }
            }
        }
    }

    /** Closed step by step: what is related to one that is in it comes in. */
    private static List<Integer> family(int[] superclasses, int[] kinds, int first) {
        List<Integer> family = new ArrayList<>(List.of(first));
        for (int i = 0; i < family.size(); i++) {
            for (int c = 0; c < 4; c++) {
                int known = family.get(i);
                boolean related = isAncestor(superclasses, c, known) || isAncestor(superclasses, known, c);
                if (related && kinds[c] == 1 && kinds[known] == 1 && !family.contains(c)) {
                    family.add(c);
                }
            }
        }
        return family;
    }

    private static boolean isAncestor(int[] superclasses, int a, int c) {
        return superclasses[c] != -1 && (superclasses[c] == a || isAncestor(superclasses, a, superclasses[c]));
    }
}
