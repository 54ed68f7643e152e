import java.util.ArrayList;
import java.util.HashSet;
import java.util.List;
import java.util.NoSuchElementException;
import java.util.Set;
import java.util.TreeSet;
import java.util.regex.Matcher;
import java.util.regex.Pattern;

/**
 * The document once more, in other ways than the program's: texts are Strings, families are closed step
 * by step, all problems are gathered, and files are read by the letter. RandomRunsTest compares the two.
 */
final class PlainMover {
    private static final class Member {
        String name;
        String fresh;
        String descriptor;
        boolean fixed;
        int c;
        int k;
    }

    private static final class Class1 {
        String name;
        String fresh;
        int superclass;
        boolean library;
        final List<Member> members = new ArrayList<>();
    }

    private static final Pattern IDENTIFIER = Pattern.compile("[a-zA-Z][a-zA-Z0-9]{0,7}");
    private static final Pattern CLASS_NAME = Pattern.compile("[a-zA-Z][a-zA-Z0-9]*(/[a-zA-Z][a-zA-Z0-9]*)*");

    private final List<Class1> all = new ArrayList<>();
    private List<Integer> buffer = new ArrayList<>();

    static String string(long text) {
        StringBuilder characters = new StringBuilder();
        for (long rest = text; rest != 0; rest >>>= 8) {
            characters.append((char) (rest & 255));
        }
        return characters.toString();
    }

    private static boolean isClassName(String name) {
        return name.length() <= 8 && CLASS_NAME.matcher(name).matches();
    }

    private static boolean isIdentifier(String name) {
        return IDENTIFIER.matcher(name).matches();
    }

    private static boolean isDescriptor(String text, int classes) {
        String type = "\\[*[IJZ" + "01234567".substring(0, classes) + "]";
        return text.length() <= 8 && text.matches(type + "|\\((" + type + ")*\\)(V|" + type + ")");
    }

    private static String packageOf(String name) {
        return name.contains("/") ? name.substring(0, name.lastIndexOf('/')) : "";
    }

    private Class1 get(int c) {
        if (c < 0 || c >= all.size()) {
            throw new IndexOutOfBoundsException();
        }
        return all.get(c);
    }

    private Member get(int c, int k) {
        Class1 owner = get(c);
        if (k < 0 || k >= owner.members.size()) {
            throw new IndexOutOfBoundsException();
        }
        return owner.members.get(k);
    }

    private List<Member> allMembers() {
        List<Member> members = new ArrayList<>();
        for (Class1 owner : all) {
            members.addAll(owner.members);
        }
        return members;
    }

    private int moved() {
        int moved = 0;
        for (Class1 owner : all) {
            moved += owner.name.equals(owner.fresh) ? 0 : 1;
        }
        for (Member m : allMembers()) {
            moved += m.name.equals(m.fresh) ? 0 : 1;
        }
        return moved;
    }

    private int named(String name) {
        for (int c = 0; c < all.size(); c++) {
            if (all.get(c).name.equals(name)) {
                return c;
            }
        }
        return -1;
    }

    private boolean isAncestor(int a, int c) {
        int up = all.get(c).superclass;
        return up != -1 && (up == a || isAncestor(a, up));
    }

    int declare(long name, int superclass, boolean library) {
        if (!isClassName(string(name))) {
            throw new IllegalArgumentException();
        }
        if (superclass != -1) {
            get(superclass);
        }
        if (moved() > 0 || all.size() == 8 || named(string(name)) >= 0) {
            throw new IllegalStateException();
        }
        return add(string(name), superclass, library);
    }

    private int add(String name, int superclass, boolean library) {
        Class1 fresh = new Class1();
        fresh.name = name;
        fresh.fresh = name;
        fresh.superclass = superclass;
        fresh.library = library;
        all.add(fresh);
        return all.size() - 1;
    }

    int member(int c, long name, long descriptor, boolean fixed) {
        Class1 owner = get(c);
        if (!isIdentifier(string(name)) || !isDescriptor(string(descriptor), all.size())) {
            throw new IllegalArgumentException();
        }
        if (moved() > 0 || owner.members.size() == 6) {
            throw new IllegalStateException();
        }
        for (Member m : owner.members) {
            if (m.name.equals(string(name)) && m.descriptor.equals(string(descriptor))) {
                throw new IllegalStateException();
            }
        }
        return add(c, string(name), string(descriptor), fixed);
    }

    private int add(int c, String name, String descriptor, boolean fixed) {
        Member m = new Member();
        m.name = name;
        m.fresh = name;
        m.descriptor = descriptor;
        m.fixed = fixed;
        m.c = c;
        m.k = all.get(c).members.size();
        all.get(c).members.add(m);
        return m.k;
    }

    void moveClass(int c, long name) {
        Class1 owner = get(c);
        if (!isClassName(string(name))) {
            throw new IllegalArgumentException();
        }
        owner.fresh = string(name);
    }

    int movePackage(long from, long to) {
        String old = string(from);
        String now = string(to);
        if (!old.isEmpty() && !isClassName(old) || !now.isEmpty() && !isClassName(now)) {
            throw new IllegalArgumentException();
        }
        List<Class1> going = new ArrayList<>();
        List<String> names = new ArrayList<>();
        for (Class1 owner : all) {
            if (!owner.library && packageOf(owner.name).equals(old)) {
                String last = owner.name.substring(owner.name.lastIndexOf('/') + 1);
                going.add(owner);
                names.add(now.isEmpty() ? last : now + "/" + last);
            }
        }
        for (String name : names) {
            if (name.length() > 8) {
                throw new IllegalArgumentException();
            }
        }
        for (int i = 0; i < going.size(); i++) {
            going.get(i).fresh = names.get(i);
        }
        return going.size();
    }

    private boolean related(Member x, Member y) {
        return !x.fixed && !y.fixed && x.descriptor.startsWith("(") && x.descriptor.equals(y.descriptor)
                && x.name.equals(y.name) && (isAncestor(x.c, y.c) || isAncestor(y.c, x.c));
    }

    int moveMember(int c, int k, long name) {
        Member first = get(c, k);
        if (!isIdentifier(string(name))) {
            throw new IllegalArgumentException();
        }
        Set<Member> family = new HashSet<>();
        family.add(first);
        boolean grown = true;
        while (grown) {
            grown = false;
            for (Member x : allMembers()) {
                for (Member y : new ArrayList<>(family)) {
                    grown |= related(x, y) && family.add(x);
                }
            }
        }
        for (Member m : family) {
            m.fresh = string(name);
        }
        return family.size();
    }

    int problem() {
        TreeSet<Integer> problems = new TreeSet<>();
        for (int x = 0; x < all.size(); x++) {
            Class1 one = all.get(x);
            if (one.library && !one.fresh.equals(one.name)) {
                problems.add(10000 + 100 * x);
            }
            for (int y = x + 1; y < all.size(); y++) {
                Class1 other = all.get(y);
                if (one.fresh.equals(other.fresh)) {
                    problems.add(30000 + 100 * x + y);
                }
                if (packageOf(one.name).equals(packageOf(other.name))
                        != packageOf(one.fresh).equals(packageOf(other.fresh))) {
                    problems.add(40000 + 100 * x + y);
                }
            }
        }
        for (Member x : allMembers()) {
            if (all.get(x.c).library && !x.fresh.equals(x.name)) {
                problems.add(20000 + 100 * (8 * x.c + x.k));
            }
            for (Member y : allMembers()) {
                boolean near = x.c == y.c || isAncestor(x.c, y.c) || isAncestor(y.c, x.c);
                if (8 * x.c + x.k < 8 * y.c + y.k && near && x.descriptor.equals(y.descriptor)
                        && x.fresh.equals(y.fresh) && !x.name.equals(y.name)) {
                    problems.add(50000 + 100 * (8 * x.c + x.k) + 8 * y.c + y.k);
                }
            }
        }
        return problems.isEmpty() ? 0 : problems.first();
    }

    int apply() {
        if (problem() != 0) {
            throw new IllegalStateException();
        }
        int moved = moved();
        all.forEach(owner -> owner.name = owner.fresh);
        allMembers().forEach(m -> m.name = m.fresh);
        return moved;
    }

    int cancel() {
        int moved = moved();
        all.forEach(owner -> owner.fresh = owner.name);
        allMembers().forEach(m -> m.fresh = m.name);
        return moved;
    }

    int classes() {
        return all.size();
    }

    long className(int c, boolean fresh) {
        return Checks.text(fresh ? get(c).fresh : get(c).name);
    }

    long memberName(int c, int k, boolean fresh) {
        return Checks.text(fresh ? get(c, k).fresh : get(c, k).name);
    }

    int find(int c, long name, long descriptor) {
        for (Member m : get(c).members) {
            if (m.name.equals(string(name)) && m.descriptor.equals(string(descriptor))) {
                return 8 * c + m.k;
            }
        }
        if (get(c).superclass == -1) {
            throw new NoSuchElementException();
        }
        return find(get(c).superclass, name, descriptor);
    }

    int write(int c) {
        Class1 owner = get(c);
        List<String> uses = new ArrayList<>();
        uses.add(owner.name);
        if (owner.superclass != -1) {
            uses.add(all.get(owner.superclass).name);
        }
        for (Member m : owner.members) {
            uses.add(m.name);
            uses.add(writtenOut(m.descriptor));
        }
        List<String> pool = uses.stream().distinct().toList();
        List<Integer> file = new ArrayList<>(List.of(202, pool.size()));
        for (String text : pool) {
            file.add(text.length());
            text.chars().forEach(file::add);
        }
        file.add(pool.indexOf(owner.name) + 1);
        file.add(owner.superclass == -1 ? 0 : pool.indexOf(all.get(owner.superclass).name) + 1);
        file.add(owner.library ? 1 : 0);
        file.add(owner.members.size());
        for (Member m : owner.members) {
            file.add(pool.indexOf(m.name) + 1);
            file.add(pool.indexOf(writtenOut(m.descriptor)) + 1);
            file.add(m.fixed ? 1 : 0);
        }
        buffer = file;
        return file.size();
    }

    private String writtenOut(String descriptor) {
        StringBuilder written = new StringBuilder();
        for (char ch : descriptor.toCharArray()) {
            written.append(Character.isDigit(ch) ? "L" + all.get(ch - '0').name + ";" : String.valueOf(ch));
        }
        return written.toString();
    }

    /** What no call of the document can do at once: write gives the length, and poke each byte. */
    void takeBuffer(int[] bytes) {
        buffer = new ArrayList<>();
        for (int b : bytes) {
            buffer.add(b);
        }
    }

    int bufferLength() {
        return buffer.size();
    }

    int byteAt(int i) {
        return buffer.get(i);
    }

    void poke(int i, int b) {
        buffer.get(i);
        if (b != (b & 255)) {
            throw new IllegalArgumentException();
        }
        buffer.set(i, b);
    }

    int load() {
        if (moved() > 0 || all.size() == 8) {
            throw new IllegalStateException();
        }
        Class1 made;
        try {
            made = read();
        } catch (IndexOutOfBoundsException e) {
            throw new IllegalArgumentException();
        }
        int c = add(made.name, made.superclass, made.library);
        for (Member m : made.members) {
            add(c, m.name, m.descriptor, m.fixed);
        }
        return c;
    }

    private static void require(boolean holds) {
        if (!holds) {
            throw new IllegalArgumentException();
        }
    }

    private int at;
    private int used;
    private List<String> texts;

    /** A number of a text that was used already, or of the next one. */
    private String use() {
        int number = buffer.get(at++);
        require(number >= 1 && number <= used + 1);
        used = Math.max(used, number);
        return texts.get(number - 1);
    }

    private boolean flag() {
        int flag = buffer.get(at++);
        require(flag == 0 || flag == 1);
        return flag == 1;
    }

    private Class1 read() {
        require(!buffer.isEmpty() && buffer.get(0) == 202);
        texts = new ArrayList<>();
        at = 2;
        used = 0;
        for (int t = 0; t < buffer.get(1); t++) {
            int length = buffer.get(at++);
            StringBuilder text = new StringBuilder();
            for (int i = 0; i < length; i++) {
                text.append((char) (int) buffer.get(at++));
            }
            texts.add(text.toString());
        }
        require(new HashSet<>(texts).size() == texts.size());
        Class1 made = new Class1();
        made.name = use();
        require(isClassName(made.name) && named(made.name) < 0);
        made.superclass = -1;
        if (buffer.get(at) == 0) {
            at++;
        } else {
            made.superclass = named(use());
            require(made.superclass >= 0);
        }
        made.library = flag();
        int members = buffer.get(at++);
        require(members <= 6);
        Set<String> signatures = new HashSet<>();
        for (int k = 0; k < members; k++) {
            Member m = new Member();
            m.name = use();
            m.descriptor = withDigits(use(), made.name);
            m.fixed = flag();
            require(isIdentifier(m.name) && isDescriptor(m.descriptor, all.size() + 1));
            require(signatures.add(m.name + " " + m.descriptor));
            made.members.add(m);
        }
        require(at == buffer.size() && used == texts.size());
        return made;
    }

    private String withDigits(String written, String newName) {
        require(written.chars().noneMatch(ch -> ch == 0) && written.matches("(\\[|\\(|\\)|V|I|J|Z|L[^;]*;)*"));
        Matcher names = Pattern.compile("L([^;]*);").matcher(written);
        StringBuilder compact = new StringBuilder();
        while (names.find()) {
            String name = names.group(1);
            int c = name.equals(newName) ? all.size() : named(name);
            require(c >= 0);
            names.appendReplacement(compact, String.valueOf(c));
        }
        names.appendTail(compact);
        return compact.toString();
    }
}
