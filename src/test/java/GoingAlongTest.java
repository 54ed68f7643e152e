import java.util.ArrayList;
import java.util.List;
import java.util.Random;
import java.util.TreeMap;

/**
 * The first sentence, "names can be changed so that all that names them goes along", and the first of the
 * terms, "What would make two things one, or part what belongs together, is found before anything changes":
 * what is seen of an object by its calls before apply must be seen behind it, too, by the new names. Here no
 * second telling of the document is needed, so a fault that PlainMover had as well would show.
 */
public final class GoingAlongTest {
    private static final int RUNS = 4000;
    private static final Checks CHECKS = new Checks();
    private static final String[] CLASS_NAMES = {"A", "B", "a/A", "a/B", "a/b/A", "I", "b/A"};
    private static final String[] MEMBER_NAMES = {"m", "n", "o", "I"};
    private static final String[] DESCRIPTORS = {"()V", "()V", "()V", "(0)1", "I", "I", "[1", "1"};
    private static final String[] PACKAGES = {"", "a", "a/b", "b", "c"};

    /** What the test itself knows of an object: the superclasses and the descriptors have no call that tells them. */
    private static final class Known {
        final NameMover x = new NameMover();
        final List<Integer> superclasses = new ArrayList<>();
        final List<int[]> members = new ArrayList<>();
        final List<String> descriptors = new ArrayList<>();

        long name(int m, boolean fresh) {
            return x.memberName(members.get(m)[0], members.get(m)[1], fresh);
        }
    }

    private static int applied = 0;
    private static int changed = 0;
    private static int refused = 0;
    private static int loaded = 0;

    private static long t(String characters) {
        return Checks.text(characters);
    }

    public static void main(String[] args) {
        for (int seed = 0; seed < RUNS; seed++) {
            run(seed);
        }
        System.out.println(applied + " applied, " + changed + " of them with changes, " + refused + " refused, "
                + loaded + " loaded");
        boolean some = changed > RUNS / 10 && refused > RUNS / 10 && loaded > RUNS / 10;
        CHECKS.compare("there are runs of each sort", "true", String.valueOf(some));
        CHECKS.end();
    }

    private static void run(int seed) {
        Known probe = moving(seed);
        if (probe.x.problem() != 0) {
            refused++;
            CHECKS.sentence("seed " + seed + ": A call that throws changes nothing");
            CHECKS.dueThrow("apply with a problem", Checks.STATE, () -> probe.x.apply());
            CHECKS.compare("all that is seen", Observed.all(moving(seed).x), Observed.all(probe.x));
        } else {
            applied++;
            membersAreFound(seed);
            familiesStay(seed);
            packagesStay(seed);
            filesTellTheSame(seed);
        }
        newNamesAreDropped(seed);
        filesAreLoaded(seed);
    }

    private static String pick(Random random, String[] texts) {
        return texts[random.nextInt(texts.length)];
    }

    private static Known resting(Random random) {
        Known known = new Known();
        int count = 2 + random.nextInt(3);
        for (int c = 0; c < count; c++) {
            int superclass = random.nextInt(4) == 0 ? -1 : random.nextInt(c + 1) - 1;
            String name = CLASS_NAMES[(random.nextInt(3) + 3 * c) % CLASS_NAMES.length];
            boolean library = random.nextInt(8) == 0;
            if (!Checks.told(() -> known.x.declare(t(name), superclass, library)).startsWith("throws.")) {
                known.superclasses.add(superclass);
            }
        }
        for (int tries = 0; tries < 10; tries++) {
            int c = random.nextInt(known.superclasses.size());
            String descriptor = pick(random, DESCRIPTORS);
            String name = pick(random, MEMBER_NAMES);
            boolean fixed = random.nextInt(5) == 0;
            String k = Checks.told(() -> known.x.member(c, t(name), t(descriptor), fixed));
            if (!k.startsWith("throws.")) {
                known.members.add(new int[] {c, Integer.parseInt(k)});
                known.descriptors.add(descriptor);
            }
        }
        return known;
    }

    private static Known resting(int seed) {
        return resting(new Random(seed));
    }

    private static Known moving(int seed) {
        Random random = new Random(seed);
        Known known = resting(random);
        int moves = 1 + random.nextInt(3);
        for (int move = 0; move < moves; move++) {
            int kind = random.nextInt(5);
            if (kind == 0) {
                known.x.moveClass(random.nextInt(known.superclasses.size()), t(pick(random, CLASS_NAMES)));
            } else if (kind == 1) {
                known.x.movePackage(t(pick(random, PACKAGES)), t(pick(random, PACKAGES)));
            } else if (!known.members.isEmpty()) {
                int[] m = known.members.get(random.nextInt(known.members.size()));
                known.x.moveMember(m[0], m[1], t(pick(random, MEMBER_NAMES)));
            }
        }
        return known;
    }

    private static Known moved(int seed) {
        Known known = moving(seed);
        known.x.apply();
        return known;
    }

    private static void membersAreFound(int seed) {
        CHECKS.sentence("seed " + seed + ": What would make two things one .. is found before anything changes");
        Known known = moving(seed);
        TreeMap<String, Integer> found = new TreeMap<>();
        for (int c = 0; c < known.superclasses.size(); c++) {
            for (int m = 0; m < known.members.size(); m++) {
                int owner = c;
                int member = m;
                String told = Checks.told(() -> known.x.find(owner, known.name(member, false), t(known.descriptors.get(member))));
                int[] k = known.members.get(m);
                if (told.equals(String.valueOf(8 * k[0] + k[1]))) {
                    found.put(c + " " + m, 8 * k[0] + k[1]);
                }
            }
        }
        changed += known.x.apply() > 0 ? 1 : 0;
        for (String where : found.keySet()) {
            int c = Integer.parseInt(where.split(" ")[0]);
            int m = Integer.parseInt(where.split(" ")[1]);
            CHECKS.due("find from class " + where, found.get(where),
                    () -> known.x.find(c, known.name(m, false), t(known.descriptors.get(m))));
        }
    }

    /** For each member those that get a new name with it. */
    private static String families(Known known) {
        StringBuilder told = new StringBuilder();
        for (int[] member : known.members) {
            told.append(known.x.moveMember(member[0], member[1], t("zz"))).append(':');
            for (int m = 0; m < known.members.size(); m++) {
                told.append(known.name(m, true) == t("zz") ? " " + m : "");
            }
            told.append('\n');
            known.x.cancel();
        }
        return told.toString();
    }

    private static void familiesStay(int seed) {
        CHECKS.sentence("seed " + seed + ": .. or part what belongs together");
        CHECKS.compare("the families", families(resting(seed)), families(moved(seed)));
    }

    /** For each class those that go along when its package becomes another. */
    private static String packages(Known known) {
        StringBuilder told = new StringBuilder();
        for (int c = 0; c < known.superclasses.size(); c++) {
            String name = PlainMover.string(known.x.className(c, false));
            String from = name.contains("/") ? name.substring(0, name.lastIndexOf('/')) : "";
            known.x.movePackage(t(from), t("zz/zz"));
            for (int other = 0; other < known.superclasses.size(); other++) {
                boolean along = known.x.className(other, true) != known.x.className(other, false);
                told.append(along ? " " + other : "");
            }
            told.append('\n');
            known.x.cancel();
        }
        return told.toString();
    }

    private static void packagesStay(int seed) {
        CHECKS.sentence("seed " + seed + ": .. or part what belongs together, as packages do");
        CHECKS.compare("the packages", packages(resting(seed)), packages(moved(seed)));
    }

    /** The texts of the pool in the buffer; their bytes end where the rest of the file starts. */
    private static List<String> pool(NameMover x) {
        List<String> texts = new ArrayList<>();
        int count = x.byteAt(1);
        int at = 2;
        for (int i = 0; i < count; i++) {
            int end = at + 1 + x.byteAt(at);
            StringBuilder text = new StringBuilder();
            for (int p = at + 1; p < end; p++) {
                text.append((char) x.byteAt(p));
            }
            texts.add(text.toString());
            at = end;
        }
        return texts;
    }

    private static int behind(List<String> pool) {
        return 2 + pool.stream().mapToInt(text -> 1 + text.length()).sum();
    }

    /** The file with numbers for the names of classes and members: nothing of it may change with these. */
    private static String fileInNumbers(Known known, int c) {
        NameMover x = known.x;
        int length = x.write(c);
        List<String> pool = pool(x);
        int at = behind(pool);
        int above = x.byteAt(at + 1);
        int members = x.byteAt(at + 3);
        StringBuilder told = new StringBuilder(number(known, pool.get(x.byteAt(at) - 1)));
        told.append(" under ").append(above == 0 ? "-1" : number(known, pool.get(above - 1)));
        told.append(" library ").append(x.byteAt(at + 2));
        for (int k = 0; k < members; k++) {
            int p = at + 4 + 3 * k;
            boolean named = t(pool.get(x.byteAt(p) - 1)) == x.memberName(c, k, false);
            told.append(named ? " its name " : " another name ");
            told.append(inNumbers(known, pool.get(x.byteAt(p + 1) - 1))).append(" fixed ").append(x.byteAt(p + 2));
        }
        told.append(length == at + 4 + 3 * members ? "" : " and more");
        return told.toString();
    }

    private static String number(Known known, String name) {
        for (int c = 0; c < known.superclasses.size(); c++) {
            if (known.x.className(c, false) == t(name)) {
                return String.valueOf(c);
            }
        }
        return "none";
    }

    private static String inNumbers(Known known, String descriptor) {
        StringBuilder told = new StringBuilder();
        int at = 0;
        while (at < descriptor.length()) {
            if (descriptor.charAt(at) == 'L') {
                int end = descriptor.indexOf(';', at);
                told.append(number(known, descriptor.substring(at + 1, end)));
                at = end + 1;
            } else {
                told.append(descriptor.charAt(at));
                at++;
            }
        }
        return told.toString();
    }

    private static void filesTellTheSame(int seed) {
        CHECKS.sentence("seed " + seed + ": all that names them goes along: .. the texts in the files");
        int count = resting(seed).superclasses.size();
        for (int c = 0; c < count; c++) {
            Known after = moved(seed);
            String told = fileInNumbers(after, c);
            CHECKS.compare("the file of class " + c, fileInNumbers(resting(seed), c), told);
            CHECKS.compare("its superclass", String.valueOf(after.superclasses.get(c)), told.split(" ")[2]);
        }
    }

    private static void newNamesAreDropped(int seed) {
        CHECKS.sentence("seed " + seed + ": All new names become the names");
        Known known = moving(seed);
        known.x.cancel();
        CHECKS.compare("all that is seen", Observed.all(resting(seed).x), Observed.all(known.x));
    }

    /** A class's own file can be loaded as soon as its name is free: what names it there is then the new class. */
    private static void filesAreLoaded(int seed) {
        CHECKS.sentence("seed " + seed + ": A new class is made so that the buffer is its file, byte by byte");
        int count = resting(seed).superclasses.size();
        for (int c = 0; c < count; c++) {
            NameMover x = resting(seed).x;
            x.write(c);
            String file = TestFiles.buffer(x);
            String name = PlainMover.string(x.className(c, false));
            x.moveClass(c, t(name.substring(0, name.lastIndexOf('/') + 1) + "Zz"));
            if (x.problem() != 0) {
                // A library class keeps its name, so there is nothing to load.
                CHECKS.due("a library class", 10000 + 100 * c, () -> x.problem());
                continue;
            }
            x.apply();
            loaded++;
            CHECKS.due("load", count, () -> x.load());
            CHECKS.compare("the buffer", file, TestFiles.buffer(x));
            x.write(c);
            x.write(count);
            CHECKS.compare("its file", file, TestFiles.buffer(x));
        }
    }
}
