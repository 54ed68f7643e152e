import java.util.Random;

/**
 * All promises: many runs of at most 512 calls, made by a fixed row of seeds, in which each answer must be
 * that of PlainMover, and the states of both are compared at each run's end.
 */
public final class RandomRunsTest {
    private static final int RUNS = 3000;
    /** Behind so many calls the document promises nothing of an object. */
    private static final int MOST_CALLS = 512;
    private static final String[] CLASS_NAMES = {"A", "B", "C", "I", "LA", "a/A", "a/B", "b/A", "b/C", "a/b/C", "D2",
        "abcdefgh", "ab/cd/Ef", "a", "m", "", "1", "a/", "a//b", "a/b/c/dd"};
    private static final String[] PACKAGES = {"", "a", "b", "a/b", "c", "ab/cd", "abcdef", "abcdefgh", "a/", "1", "LA"};
    private static final String[] MEMBER_NAMES = {"m", "n", "o", "f", "I", "A", "abcdefgh", "m2", "", "9", "a/b"};
    private static final String[] DESCRIPTORS = {"()V", "()V", "()V", "I", "(0)V", "(01)[1", "[0", "2", "(34567)0", "7",
        "()", "V", "[[[[[[[I", "(I)V", "8", "(00000)1"};

    private final Checks checks = new Checks();
    private final int[] answers = new int[17];
    private final int[] throwing = new int[17];
    private int callsOfRun = 0;

    public static void main(String[] args) {
        RandomRunsTest test = new RandomRunsTest();
        for (int seed = 0; seed < RUNS; seed++) {
            test.run(seed);
        }
        for (int call = 0; call < 17; call++) {
            // Runs that never reach an answer of some call would compare nothing.
            if (test.answers[call] == 0) {
                test.checks.compare("answers of call " + call, "some", "none");
            }
        }
        System.out.println("answers by call " + java.util.Arrays.toString(test.answers));
        System.out.println("throws by call " + java.util.Arrays.toString(test.throwing));
        test.checks.end();
    }

    private static long pick(Random random, String[] texts) {
        return random.nextInt(60) == 0 ? random.nextLong() : Checks.text(texts[random.nextInt(texts.length)]);
    }

    private static int number(Random random, int limit) {
        return random.nextInt(25) == 0 ? random.nextInt(12) - 3 : random.nextInt(Math.max(1, limit));
    }

    private void run(int seed) {
        Random random = new Random(seed);
        NameMover program = new NameMover();
        PlainMover plain = new PlainMover();
        int calls = 20 + random.nextInt(400);
        callsOfRun = 0;
        // Some runs are for making classes, some for files, some for moving.
        int bent = random.nextInt(4);
        for (int i = 0; i < calls; i++) {
            int kind = random.nextInt(3) == 0 || bent == 3 ? random.nextInt(17) : bentKind(random, bent);
            step(seed, random, program, plain, kind);
        }
        compareStates(seed, program, plain);
    }

    private static int bentKind(Random random, int bent) {
        int[][] kinds = {{0, 1, 1, 1, 5, 6, 7}, {0, 1, 1, 12, 14, 15, 16, 16, 8}, {3, 4, 5, 6, 7, 8, 1, 11}};
        return kinds[bent][random.nextInt(kinds[bent].length)];
    }

    private void step(int seed, Random random, NameMover program, PlainMover plain, int kind) {
        int c = number(random, plain.classes());
        int k = number(random, 4);
        boolean flag = random.nextInt(4) == 0;
        long className = pick(random, CLASS_NAMES);
        long from = pick(random, PACKAGES);
        long to = pick(random, PACKAGES);
        long name = pick(random, MEMBER_NAMES);
        long descriptor = pick(random, DESCRIPTORS);
        String said = "seed " + seed + " call " + kind + " c " + c + " k " + k;
        switch (kind) {
            case 0 -> {
                int superclass = random.nextInt(4) == 0 ? -1 : c;
                compare(said, kind, () -> program.declare(className, superclass, flag),
                        () -> plain.declare(className, superclass, flag));
            }
            case 1 -> compare(said, kind, () -> program.member(c, name, descriptor, flag),
                    () -> plain.member(c, name, descriptor, flag));
            case 2 -> compare(said, kind, () -> program.classes(), () -> plain.classes());
            case 3 -> compare(said, kind, () -> done(() -> program.moveClass(c, className)),
                    () -> done(() -> plain.moveClass(c, className)));
            case 4 -> compare(said, kind, () -> program.movePackage(from, to), () -> plain.movePackage(from, to));
            case 5 -> compare(said, kind, () -> program.moveMember(c, k, name), () -> plain.moveMember(c, k, name));
            case 6 -> compare(said, kind, () -> program.problem(), () -> plain.problem());
            case 7 -> compare(said, kind, () -> program.apply(), () -> plain.apply());
            case 8 -> compare(said, kind, () -> program.cancel(), () -> plain.cancel());
            case 9 -> compare(said, kind, () -> program.className(c, flag), () -> plain.className(c, flag));
            case 10 -> compare(said, kind, () -> program.memberName(c, k, flag), () -> plain.memberName(c, k, flag));
            case 11 -> {
                long known = Checks.text(new String[] {"m", "n", "o"}[random.nextInt(3)]);
                compare(said, kind, () -> program.find(c, flag ? name : known, flag ? descriptor : Checks.text("()V")),
                        () -> plain.find(c, flag ? name : known, flag ? descriptor : Checks.text("()V")));
            }
            case 12 -> compare(said, kind, () -> program.write(c), () -> plain.write(c));
            case 13 -> {
                int i = random.nextInt(60) - 3;
                compare(said, kind, () -> program.byteAt(i), () -> plain.byteAt(i));
            }
            case 14 -> pokeAByte(said, random, program, plain);
            case 15 -> pokeTheName(said, random, program, plain);
            default -> compare(said, kind, () -> program.load(), () -> plain.load());
        }
    }

    private void pokeAByte(String said, Random random, NameMover program, PlainMover plain) {
        int i = random.nextInt(70) - 3;
        int[] bytes = {0, 1, 2, 3, 4, 5, 'A', 'B', 'C', 'I', 'L', ';', '0', '/', '(', '[', 'm', 202, 255, 256, -1};
        int b = bytes[random.nextInt(bytes.length)];
        compare(said + " i " + i + " b " + b, 14, () -> done(() -> program.poke(i, b)), () -> done(() -> plain.poke(i, b)));
    }

    /** What makes a file that can be loaded: the first character of the class's name becomes another. */
    private void pokeTheName(String said, Random random, NameMover program, PlainMover plain) {
        int b = "QRSTUVWXYZ".charAt(random.nextInt(10));
        compare(said + " b " + b, 15, () -> done(() -> program.poke(3, b)), () -> done(() -> plain.poke(3, b)));
    }

    private static long done(Checks.Deed deed) {
        deed.run();
        return 0;
    }

    private void compare(String said, int kind, Checks.Call program, Checks.Call plain) {
        if (callsOfRun == MOST_CALLS) {
            return;
        }
        callsOfRun++;
        long want = 0;
        try {
            want = plain.answer();
        } catch (RuntimeException e) {
            throwing[kind]++;
            Class<? extends RuntimeException> due = e instanceof IndexOutOfBoundsException ? Checks.INDEX : e.getClass();
            checks.dueThrow(said, due, program);
            return;
        }
        answers[kind]++;
        checks.due(said, want, program);
    }

    private void compareStates(int seed, NameMover program, PlainMover plain) {
        String said = "seed " + seed + " at its end: ";
        compareBuffers(said + "buffer ", program, plain);
        compare(said + "problem", 6, () -> program.problem(), () -> plain.problem());
        for (int number = 0; number <= plain.classes(); number++) {
            int c = number;
            for (boolean fresh : new boolean[] {false, true}) {
                compare(said + "class " + c, 9, () -> program.className(c, fresh), () -> plain.className(c, fresh));
                for (int member = 0; member < 7; member++) {
                    int k = member;
                    compare(said + "member " + c + " " + k, 10, () -> program.memberName(c, k, fresh),
                            () -> plain.memberName(c, k, fresh));
                }
            }
            compare(said + "write " + c, 12, () -> program.write(c), () -> plain.write(c));
            compareBuffers(said + "file of " + c + " ", program, plain);
        }
    }

    private void compareBuffers(String said, NameMover program, PlainMover plain) {
        // The last one is behind the end of both.
        for (int i = 0; i <= plain.bufferLength(); i++) {
            int at = i;
            compare(said + i, 13, () -> program.byteAt(at), () -> plain.byteAt(at));
        }
    }
}
