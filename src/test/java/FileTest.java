/** Promises 14, 15, 16 and 17: write, byteAt, poke, load. */
public final class FileTest {
    private static final Checks CHECKS = new Checks();

    private static long t(String characters) {
        return Checks.text(characters);
    }

    public static void main(String[] args) {
        theSmallestFile();
        aWholeFile();
        textsAreInThePoolOnce();
        namesNotNewNames();
        theGreatestFile();
        wrongClassesToWrite();
        bytes();
        poking();
        loading();
        loadingAClassThatNamesItself();
        loadingAfterNamesWereMoved();
        statesThatRefuseALoad();
        bytesThatAreNoFile();
        poolsThatAreNotAsWritten();
        namesThatAreNone();
        descriptorsThatAreNone();
        membersThatAreWrong();
        aRefusedLoadLeavesNothing();
        theMostMembers();
        theEighthClass();
        CHECKS.end();
    }

    private static String words(int[] bytes) {
        return java.util.Arrays.toString(bytes);
    }

    private static String buffer(NameMover x, int length) {
        int[] bytes = new int[length];
        for (int i = 0; i < length; i++) {
            bytes[i] = x.byteAt(i);
        }
        return words(bytes);
    }

    /** A file told in words: numbers are bytes, words in quotes are texts with their length. */
    private static int[] file(String told) {
        java.util.ArrayList<Integer> bytes = new java.util.ArrayList<>();
        for (String word : told.split(" ")) {
            if (word.startsWith("'")) {
                bytes.add(word.length() - 2);
                for (char ch : word.substring(1, word.length() - 1).toCharArray()) {
                    bytes.add((int) ch);
                }
            } else {
                bytes.add(Integer.parseInt(word));
            }
        }
        return bytes.stream().mapToInt(b -> b).toArray();
    }

    private static void dueFile(NameMover x, String what, int c, String told) {
        int[] want = file(told);
        CHECKS.due(what + ", length", want.length, () -> x.write(c));
        CHECKS.compare(what, words(want), buffer(x, want.length));
        CHECKS.dueThrow(what + ", behind it", Checks.INDEX, () -> x.byteAt(want.length));
    }

    /**
     * Class 0 is A with a field f of type I, class 1 is a/B; the buffer is as told. Only a written
     * buffer has a length, so class 2 is declared just to have a file of the length that is needed.
     */
    private static NameMover withBuffer(String told) {
        int[] want = file(told);
        NameMover x = new NameMover();
        x.declare(t("A"), -1, false);
        x.member(0, t("f"), t("I"), false);
        x.declare(t("a/B"), 0, true);
        makeFileOfLength(x, want.length);
        for (int i = 0; i < want.length; i++) {
            x.poke(i, want[i]);
        }
        return x;
    }

    /** Class 2 gets names that are just so long that its file has this length, which is 8 or more. */
    private static void makeFileOfLength(NameMover x, int length) {
        int members = 0;
        int least = 8;
        // A member adds its name, the first one a descriptor, too, and 3 bytes; a name has 7 characters to spare.
        while (least + 7 * (members + 1) < length) {
            least += members == 0 ? 7 : 5;
            members++;
        }
        int spare = length - least;
        int more = Math.min(7, spare);
        x.declare(t("Q" + "q".repeat(more)), -1, false);
        for (int k = 0; k < members; k++) {
            spare -= more;
            more = Math.min(7, spare);
            x.member(2, t((char) ('a' + k) + "y".repeat(more)), t("I"), false);
        }
        CHECKS.due("a file of the length that is needed", length, () -> x.write(2));
    }

    private static void theSmallestFile() {
        NameMover x = new NameMover();
        x.declare(t("A"), -1, false);
        dueFile(x, "a class alone", 0, "202 1 'A' 1 0 0 0");
        x.declare(t("L"), -1, true);
        dueFile(x, "a library class", 1, "202 1 'L' 1 0 1 0");
        x.declare(t("a/b/C"), 0, false);
        dueFile(x, "a class with a superclass", 2, "202 2 'a/b/C' 'A' 1 2 0 0");
    }

    private static void aWholeFile() {
        NameMover x = new NameMover();
        x.declare(t("A"), -1, false);
        x.declare(t("p/Bee"), 0, true);
        x.member(1, t("f"), t("[[1"), true);
        x.member(1, t("m"), t("(0I[1)Z"), false);
        x.member(1, t("m"), t("()V"), true);
        x.member(1, t("f"), t("J"), false);
        dueFile(x, "a whole file", 1, "202 8 'p/Bee' 'A' 'f' '[[Lp/Bee;' 'm' '(LA;I[Lp/Bee;)Z' '()V' 'J'"
                + " 1 2 1 4 3 4 1 5 6 0 5 7 1 3 8 0");
    }

    private static void textsAreInThePoolOnce() {
        NameMover x = new NameMover();
        x.declare(t("I"), -1, false);
        x.declare(t("J"), 0, false);
        x.member(1, t("I"), t("J"), false);
        x.member(1, t("J"), t("I"), false);
        x.member(1, t("J"), t("0"), false);
        x.member(1, t("Jj"), t("0"), false);
        dueFile(x, "texts that are used again", 1, "202 4 'J' 'I' 'LI;' 'Jj' 1 2 0 4 2 1 0 1 2 0 1 3 0 4 3 0");
    }

    private static void namesNotNewNames() {
        NameMover x = new NameMover();
        x.declare(t("A"), -1, false);
        x.declare(t("B"), 0, false);
        x.member(1, t("f"), t("0"), false);
        x.moveClass(0, t("Cc"));
        x.moveClass(1, t("Dd"));
        x.moveMember(1, 0, t("gg"));
        dueFile(x, "names while it moves", 1, "202 4 'B' 'A' 'f' 'LA;' 1 2 0 1 3 4 0");
        x.apply();
        CHECKS.due("the buffer stays", 'B', () -> x.byteAt(3));
        dueFile(x, "names that have moved", 1, "202 4 'Dd' 'Cc' 'gg' 'LCc;' 1 2 0 1 3 4 0");
    }

    private static void theGreatestFile() {
        NameMover x = new NameMover();
        x.declare(t("Aaaaaaaa"), -1, false);
        x.declare(t("a/b/c/dd"), 0, false);
        String[] descriptors = {"(01010)0", "(11010)0", "(00010)0", "(01110)0", "(01000)0", "(01011)0"};
        for (int k = 0; k < 6; k++) {
            x.member(1, t("abcdefg" + k), t(descriptors[k]), false);
        }
        CHECKS.due("the greatest file", 474, () -> x.write(1));
        CHECKS.due("its texts", 14, () -> x.byteAt(1));
        CHECKS.due("its last descriptor's length", 62, () -> x.byteAt(474 - 22 - 63));
        CHECKS.due("its last byte", 0, () -> x.byteAt(473));
        CHECKS.due("the number of its last descriptor", 14, () -> x.byteAt(472));
        x.poke(3, 'B');
        x.poke(473, 1);
        x.poke(2, 9);
        CHECKS.dueThrow("a wrong length in it", Checks.ARGUMENT, () -> x.load());
        x.poke(2, 8);
        CHECKS.due("the greatest file is loaded", 2, () -> x.load());
        CHECKS.due("and written", 474, () -> x.write(2));
        CHECKS.due("with what was poked", 1, () -> x.byteAt(473));
    }

    private static void wrongClassesToWrite() {
        NameMover x = new NameMover();
        CHECKS.dueThrow("write of no class", Checks.INDEX, () -> x.write(0));
        x.declare(t("A"), -1, false);
        x.write(0);
        for (int c : new int[] {-1, 1, 8, Integer.MIN_VALUE, Integer.MAX_VALUE}) {
            CHECKS.dueThrow("write of class " + c, Checks.INDEX, () -> x.write(c));
        }
        CHECKS.due("the buffer stays", 202, () -> x.byteAt(0));
    }

    private static void bytes() {
        NameMover x = new NameMover();
        x.declare(t("Abcdefgh"), -1, false);
        x.declare(t("B"), -1, false);
        x.write(0);
        CHECKS.due("the last byte", 0, () -> x.byteAt(14));
        CHECKS.dueThrow("behind the last byte", Checks.INDEX, () -> x.byteAt(15));
        CHECKS.due("a shorter file", 8, () -> x.write(1));
        CHECKS.dueThrow("behind its last byte", Checks.INDEX, () -> x.byteAt(8));
        CHECKS.dueThrow("byte -1", Checks.INDEX, () -> x.byteAt(-1));
        CHECKS.dueThrow("the least byte", Checks.INDEX, () -> x.byteAt(Integer.MIN_VALUE));
        CHECKS.dueThrow("the greatest byte", Checks.INDEX, () -> x.byteAt(Integer.MAX_VALUE));
    }

    private static void poking() {
        NameMover x = new NameMover();
        CHECKS.dueNotDone("poke of an empty buffer", Checks.INDEX, () -> x.poke(0, 256));
        x.declare(t("A"), -1, false);
        x.write(0);
        CHECKS.dueDone("poke 255", () -> x.poke(7, 255));
        CHECKS.due("it is there", 255, () -> x.byteAt(7));
        CHECKS.dueDone("poke 0", () -> x.poke(0, 0));
        CHECKS.due("it is there", 0, () -> x.byteAt(0));
        CHECKS.dueNotDone("poke 256", Checks.ARGUMENT, () -> x.poke(1, 256));
        CHECKS.dueNotDone("poke -1", Checks.ARGUMENT, () -> x.poke(1, -1));
        CHECKS.dueNotDone("poke behind the end", Checks.INDEX, () -> x.poke(8, -1));
        CHECKS.dueNotDone("poke before the start", Checks.INDEX, () -> x.poke(-1, 256));
        CHECKS.due("nothing is poked", 1, () -> x.byteAt(1));
        CHECKS.dueText("the class is as it was", "A", () -> x.className(0, false));
    }

    private static void dueLoaded(String what, String told) {
        NameMover x = withBuffer(told);
        int[] want = file(told);
        CHECKS.due(what, 3, () -> x.load());
        CHECKS.due(what + ", classes", 4, () -> x.classes());
        CHECKS.compare(what + ", the buffer stays", words(want), buffer(x, want.length));
        dueFile(x, what + ", written again", 3, told);
        CHECKS.due(what + ", nothing moves", 0, () -> x.cancel());
        CHECKS.dueThrow(what + ", a second time", Checks.ARGUMENT, () -> x.load());
    }

    private static void dueRefused(String what, String told) {
        NameMover x = withBuffer(told);
        int[] want = file(told);
        CHECKS.dueThrow(what, Checks.ARGUMENT, () -> x.load());
        CHECKS.dueThrow(what + ", a second time", Checks.ARGUMENT, () -> x.load());
        CHECKS.due(what + ", classes", 3, () -> x.classes());
        CHECKS.compare(what + ", the buffer stays", words(want), buffer(x, want.length));
    }

    private static void loading() {
        dueLoaded("a class alone", "202 1 'C' 1 0 0 0");
        dueLoaded("a library class with a superclass", "202 2 'a/C' 'A' 1 2 1 0");
        dueLoaded("a superclass in a package", "202 2 'C' 'a/B' 1 2 0 0");
        dueLoaded("fields", "202 5 'C' 'f' 'I' 'g' 'La/B;' 1 0 0 3 2 3 0 4 5 1 2 5 0");
        dueLoaded("methods", "202 5 'C' 'm' '(LA;[La/B;)V' 'n' '(IJZ)[I' 1 0 1 2 2 3 1 4 5 0");
        dueLoaded("a text of two uses", "202 2 'I' 'f' 1 0 0 2 1 1 0 2 1 0");
        NameMover x = withBuffer("202 5 'C' 'A' 'm' '(LA;[La/B;)V' 'f' 1 2 1 2 3 4 1 5 4 0");
        x.load();
        CHECKS.dueText("its name", "C", () -> x.className(3, false));
        CHECKS.dueText("its new name", "C", () -> x.className(3, true));
        CHECKS.dueText("its first member", "m", () -> x.memberName(3, 0, true));
        CHECKS.dueText("its second member", "f", () -> x.memberName(3, 1, false));
        CHECKS.due("its descriptor has digits", 24, () -> x.find(3, t("m"), t("(0[1)V")));
        CHECKS.due("its superclass's member", 0, () -> x.find(3, t("f"), t("I")));
        x.moveClass(3, t("D"));
        CHECKS.due("it is a library class", 10300, () -> x.problem());
    }

    private static void loadingAClassThatNamesItself() {
        dueLoaded("itself in a field", "202 3 'C' 'f' 'LC;' 1 0 0 1 2 3 0");
        dueLoaded("itself in a method", "202 3 'c/C' 'f' '(Lc/C;)[Lc/C;' 1 0 0 1 2 3 0");
        dueRefused("itself as superclass", "202 1 'C' 1 1 0 0");
        NameMover x = withBuffer("202 3 'C' 'f' 'LC;' 1 0 0 1 2 3 0");
        x.load();
        CHECKS.due("its own number", 24, () -> x.find(3, t("f"), t("3")));
    }

    private static void loadingAfterNamesWereMoved() {
        NameMover x = withBuffer("202 3 'C' 'f' 'LA;' 1 0 0 1 2 3 0");
        x.moveClass(0, t("E"));
        x.apply();
        CHECKS.dueThrow("the old name of class 0", Checks.ARGUMENT, () -> x.load());
        x.poke(8, 'E');
        CHECKS.due("its name now", 3, () -> x.load());
        x.moveClass(0, t("Ee"));
        x.apply();
        dueFile(x, "what names it goes along", 3, "202 3 'C' 'f' 'LEe;' 1 0 0 1 2 3 0");
    }

    private static void statesThatRefuseALoad() {
        NameMover x = withBuffer("202 1 'C' 1 0 0 0");
        x.moveMember(0, 0, t("g"));
        CHECKS.dueThrow("load while it moves", Checks.STATE, () -> x.load());
        x.poke(0, 0);
        CHECKS.dueThrow("load of no file while it moves", Checks.STATE, () -> x.load());
        x.cancel();
        CHECKS.dueThrow("load of no file", Checks.ARGUMENT, () -> x.load());
        for (int c = 3; c < 8; c++) {
            x.declare(t("X" + c), -1, false);
        }
        CHECKS.dueThrow("load of no file with 8 classes", Checks.STATE, () -> x.load());
        x.poke(0, 202);
        CHECKS.dueThrow("load with 8 classes", Checks.STATE, () -> x.load());
    }

    private static void bytesThatAreNoFile() {
        dueRefused("another mark", "201 1 'C' 1 0 0 0");
        dueRefused("a byte too many", "202 1 'C' 1 0 0 0 0");
        dueRefused("a byte less than due", "202 1 'CC' 1 0 0");
        dueRefused("no pool", "202 0 1 0 0 0 0 0");
        dueRefused("a pool beyond the end", "202 9 'C' 1 0 0 0");
        dueRefused("255 texts", "202 255 'C' 1 0 0 0");
        dueRefused("a text beyond the end", "202 1 255 67 1 0 0 0");
        dueRefused("a text to the end", "202 1 5 67 1 0 0 0");
        dueRefused("a member too many", "202 1 'C' 1 0 0 1");
        dueRefused("255 members", "202 1 'C' 1 0 0 255");
        dueRefused("2 for a library class", "202 1 'C' 1 0 2 0");
        dueRefused("2 for a fixed member", "202 3 'C' 'f' 'I' 1 0 0 1 2 3 2");
        dueRefused("255 for a fixed member", "202 3 'C' 'f' 'I' 1 0 0 1 2 3 255");
        dueRefused("members that are not told", "202 3 'C' 'f' 'I' 1 0 0 0 2 3 0");
        dueRefused("zeros", "0 0 0 0 0 0 0 0");
    }

    private static void poolsThatAreNotAsWritten() {
        dueRefused("a text that is not used", "202 2 'C' 'f' 1 0 0 0");
        dueRefused("a text twice", "202 3 'I' 'f' 'I' 1 0 0 1 2 3 0");
        dueRefused("another order", "202 3 'C' 'I' 'f' 1 0 0 1 3 2 0");
        dueRefused("the name is not first", "202 2 'A' 'C' 2 1 0 0");
        dueRefused("text 0 for the name", "202 1 'C' 0 0 0 0");
        dueRefused("text 2 of 1 for the name", "202 1 'C' 2 0 0 0");
        dueRefused("text 2 of 1 for the superclass", "202 1 'C' 1 2 0 0");
        dueRefused("text 255 for the superclass", "202 1 'C' 1 255 0 0");
        dueRefused("text 0 for a member's name", "202 3 'C' 'f' 'I' 1 0 0 1 0 3 0");
        dueRefused("text 4 of 3 for a member's name", "202 3 'C' 'f' 'I' 1 0 0 1 4 3 0");
        dueRefused("text 0 for a descriptor", "202 3 'C' 'f' 'I' 1 0 0 1 2 0 0");
        dueRefused("text 4 of 3 for a descriptor", "202 3 'C' 'f' 'I' 1 0 0 1 2 4 0");
        dueRefused("text 255 for a descriptor", "202 3 'C' 'f' 'I' 1 0 0 1 2 255 0");
        dueRefused("an empty text", "202 2 'C' '' 1 0 0 0");
    }

    private static void namesThatAreNone() {
        dueRefused("a class's name of a digit", "202 1 '1' 1 0 0 0");
        dueRefused("a class's name with a slash at its end", "202 1 'C/' 1 0 0 0");
        dueRefused("a zero in a class's name", "202 1 2 67 0 1 0 0 0");
        dueRefused("a class's name of nine characters", "202 1 'Cdefghijk' 1 0 0 0");
        dueRefused("a class's name that repeats after eight", "202 1 'CCCCCCCCC' 1 0 0 0");
        dueRefused("a class's name that is there", "202 1 'A' 1 0 0 0");
        dueRefused("another class's name that is there", "202 1 'a/B' 1 0 0 0");
        dueRefused("a superclass that is not there", "202 2 'C' 'D' 1 2 0 0");
        dueRefused("a zero in a superclass's name", "202 2 'C' 2 65 0 1 2 0 0");
        dueRefused("a superclass's name of nine characters", "202 2 'C' 'A12345678' 1 2 0 0");
        dueRefused("a member's name with a slash", "202 3 'C' 'f/g' 'I' 1 0 0 1 2 3 0");
        dueRefused("a member's name of a digit", "202 3 'C' '1' 'I' 1 0 0 1 2 3 0");
        dueRefused("an empty member's name", "202 3 'C' '' 'II' 1 0 0 1 2 3 0");
        dueRefused("a zero in a member's name", "202 3 'C' 2 102 0 'I' 1 0 0 1 2 3 0");
        dueRefused("a member's name of nine characters", "202 3 'C' 'abcdefghi' 'I' 1 0 0 1 2 3 0");
        dueLoaded("a member's name of eight characters", "202 3 'C' 'abcdefgh' 'I' 1 0 0 1 2 3 0");
        dueLoaded("a class's name of eight characters", "202 1 'Cdefghij' 1 0 0 0");
    }

    private static void refusedDescriptor(String descriptor) {
        dueRefused("descriptor " + descriptor, "202 3 'C' 'f' '" + descriptor + "' 1 0 0 1 2 3 0");
    }

    private static void acceptedDescriptor(String descriptor) {
        dueLoaded("descriptor " + descriptor, "202 3 'C' 'f' '" + descriptor + "' 1 0 0 1 2 3 0");
    }

    private static void descriptorsThatAreNone() {
        String[] refused = {"V", "0", "1", "[0", "(0)V", "LD;", "LA", "L", "L;", "LA;;", "A;", "A", "[", "[V", "()", "(I",
            "(LA)V", "(LA;V", "IL", "LL", "LLA;", "La/B;I", "LA;LA;", "(V)V", "()VV", "(IIIIII)V", "(IIIIII)I",
            "[[[[[[[[I", "LA2345678;", "L[A;", "La;", "LB;", "[[[[[[[[LA;", "(LA;IIIII)V", "()V;", ";", "f"};
        for (String descriptor : refused) {
            refusedDescriptor(descriptor);
        }
        dueRefused("a zero behind a descriptor", "202 3 'C' 'f' 2 73 0 1 0 0 1 2 3 0");
        dueRefused("a zero in a class's name in a descriptor", "202 3 'C' 'f' 4 76 65 0 59 1 0 0 1 2 3 0");
        dueRefused("an empty descriptor", "202 3 'C' 'ff' '' 1 0 0 1 2 3 0");
        String[] accepted = {"I", "J", "Z", "LA;", "LC;", "[LA;", "[[[[[[[I", "[[[[[[[LA;", "()V", "(IIIII)I",
            "(LA;IIII)V", "(LA;La/B;LC;LA;LA;)LC;", "()[[[[[LA;", "(LA;)La/B;"};
        for (String descriptor : accepted) {
            acceptedDescriptor(descriptor);
        }
    }

    private static void membersThatAreWrong() {
        dueRefused("two members that are the same", "202 3 'C' 'f' 'I' 1 0 0 2 2 3 0 2 3 0");
        dueRefused("two that are not fixed alike", "202 3 'C' 'f' 'I' 1 0 0 2 2 3 0 2 3 1");
        dueLoaded("two with the same name", "202 4 'C' 'f' 'I' 'J' 1 0 0 2 2 3 0 2 4 0");
        dueLoaded("two with the same descriptor", "202 4 'C' 'f' 'I' 'g' 1 0 0 2 2 3 0 4 3 0");
    }

    private static void aRefusedLoadLeavesNothing() {
        NameMover x = withBuffer("202 3 'C' 'f' 'I' 1 0 0 2 2 3 0 2 3 0");
        CHECKS.dueThrow("load", Checks.ARGUMENT, () -> x.load());
        CHECKS.dueThrow("there is no class of it", Checks.INDEX, () -> x.className(3, false));
        CHECKS.dueThrow("nor a member", Checks.INDEX, () -> x.memberName(3, 0, false));
        x.moveClass(0, t("C"));
        CHECKS.due("no problem with its name", 0, () -> x.problem());
        CHECKS.due("one name moves", 1, () -> x.cancel());
        CHECKS.due("its name is free", 3, () -> x.declare(t("C"), 0, false));
        CHECKS.dueThrow("the class has no member of it", Checks.INDEX, () -> x.memberName(3, 0, false));
        dueFile(x, "the class's file", 3, "202 2 'C' 'A' 1 2 0 0");
        CHECKS.due("its superclass's field", 0, () -> x.find(3, t("f"), t("I")));
        CHECKS.due("a field as in the file", 0, () -> x.member(3, t("f"), t("I"), false));
        CHECKS.due("its own field", 24, () -> x.find(3, t("f"), t("I")));
    }

    private static void theMostMembers() {
        String six = "2 3 0 4 3 0 5 3 0 6 3 0 7 3 0 8 3 0";
        NameMover x = new NameMover();
        x.declare(t("A"), -1, false);
        for (String name : new String[] {"a", "b", "c", "d", "e", "f"}) {
            x.member(0, t(name), t("I"), false);
        }
        dueFile(x, "six members", 0, "202 8 'A' 'a' 'I' 'b' 'c' 'd' 'e' 'f' 1 0 0 6 " + six);
        x.poke(3, 'C');
        CHECKS.due("six members are loaded", 1, () -> x.load());
        CHECKS.dueThrow("no seventh", Checks.STATE, () -> x.member(1, t("g"), t("I"), false));
        // One text less (2 bytes) and a class's name of one character less make room for a member's 3 bytes.
        int[] seven = file("202 7 'C' 'a' 'I' 'b' 'c' 'd' 'e' 1 0 0 7 2 3 0 4 3 0 5 3 0 6 3 0 7 3 0 1 3 0 2 3 0");
        NameMover y = new NameMover();
        y.declare(t("Qq"), -1, false);
        for (String name : new String[] {"a", "b", "c", "d", "e", "f"}) {
            y.member(0, t(name), t("I"), false);
        }
        CHECKS.due("a file as long as one with seven members", seven.length, () -> y.write(0));
        for (int i = 0; i < seven.length; i++) {
            y.poke(i, seven[i]);
        }
        CHECKS.dueThrow("seven members are not loaded", Checks.ARGUMENT, () -> y.load());
    }

    private static void theEighthClass() {
        NameMover x = new NameMover();
        x.declare(t("A0"), -1, false);
        x.member(0, t("f"), t("0"), false);
        x.write(0);
        for (int c = 1; c < 8; c++) {
            x.poke(4, '0' + c);
            CHECKS.dueThrow("its descriptor names no class", Checks.ARGUMENT, () -> {
                x.poke(10, '9');
                return x.load();
            });
            x.poke(10, '0' + c);
            int number = c;
            CHECKS.due("class " + c + " names itself", c, () -> x.load());
            CHECKS.due("by its number", 8 * c, () -> x.find(number, t("f"), t("" + number)));
        }
        CHECKS.dueThrow("the ninth class", Checks.STATE, () -> x.load());
    }
}
