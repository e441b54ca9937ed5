import java.lang.reflect.Constructor;
import java.lang.reflect.Field;
import java.lang.reflect.Member;
import java.lang.reflect.Method;
import java.lang.reflect.Modifier;
import java.util.Arrays;
import java.util.Set;
import java.util.TreeSet;

/** The public face is the document's, and nothing else of the class can be seen from outside. */
public final class FaceTest {
    private static final String[] FACE = {
        "public static final int NONE",
        "public RingPieces(int)",
        "public int kind(int,int)",
        "public int more(int,int)",
        "public int line(int,int,int) throws java.lang.ArrayIndexOutOfBoundsException",
        "public int apart(int)",
        "public boolean allow(int,boolean)",
        "public int look(int)",
        "public int run()",
        "public int build(int)",
        "public int survey(int,int,int) throws java.lang.ArrayIndexOutOfBoundsException",
        "public int replace(int,int) throws java.lang.ArrayIndexOutOfBoundsException",
        "public int kindOf(int)",
        "public int turnOf(int)",
        "public int state(int)",
        "public long place(int,int) throws java.lang.ArrayIndexOutOfBoundsException",
        "public long off(int) throws java.lang.ArrayIndexOutOfBoundsException",
        "public long sum()",
        "public int stroke(int,int)",
        "public int left(int)",
        "public int list(int,int)",
        "public int count(int) throws java.lang.ArrayIndexOutOfBoundsException",
    };

    private static int wrong = 0;

    public static void main(String[] args) {
        Set<String> got = new TreeSet<>();
        for (Field f : RingPieces.class.getDeclaredFields()) {
            addIfSeen(got, f, f.toString());
        }
        for (Constructor<?> c : RingPieces.class.getDeclaredConstructors()) {
            addIfSeen(got, c, c.toString());
        }
        for (Method m : RingPieces.class.getDeclaredMethods()) {
            addIfSeen(got, m, m.toString());
        }
        Set<String> want = new TreeSet<>(Arrays.asList(FACE));
        due("the face", want, got);
        due("the class", "public final", Modifier.toString(RingPieces.class.getModifiers()));
        namesAreApart();
        insideIsHidden();
        noStaticState(RingPieces.class);
        System.out.println(wrong == 0 ? "the face is the document's" : wrong + " things are not as due");
        if (wrong != 0) {
            System.exit(1);
        }
    }

    private static void addIfSeen(Set<String> got, Member member, String text) {
        if (!Modifier.isPrivate(member.getModifiers()) && !member.isSynthetic()) {
            got.add(text.replace("RingPieces.", ""));
        }
    }

    private static void due(String what, Object want, Object got) {
        if (!got.equals(want)) {
            wrong++;
            System.out.println(what + ": it is " + got + ", due is " + want);
        }
    }

    /** LANGUAGE.md, rule 1: no private method bears the name of a public one. */
    private static void namesAreApart() {
        Set<String> seen = new TreeSet<>();
        Set<String> hidden = new TreeSet<>();
        for (Method m : RingPieces.class.getDeclaredMethods()) {
            (Modifier.isPublic(m.getModifiers()) ? seen : hidden).add(m.getName());
        }
        for (Class<?> inside : RingPieces.class.getDeclaredClasses()) {
            for (Method m : inside.getDeclaredMethods()) {
                hidden.add(m.getName());
            }
        }
        hidden.retainAll(seen);
        due("names of public methods that are used again", Set.of(), hidden);
    }

    /** LANGUAGE.md, rule 1: classes inside are private or package-visible, and static. */
    private static void insideIsHidden() {
        for (Class<?> inside : RingPieces.class.getDeclaredClasses()) {
            int marks = inside.getModifiers();
            boolean seen = Modifier.isPublic(marks) || Modifier.isProtected(marks);
            due(inside.getName() + ", seen from outside", false, seen);
            due(inside.getName() + ", static", true, Modifier.isStatic(marks));
            noStaticState(inside);
        }
    }

    /** LANGUAGE.md, rule 5: static fields are final. */
    private static void noStaticState(Class<?> type) {
        for (Field f : type.getDeclaredFields()) {
            due(f + ", static but not final", false,
                Modifier.isStatic(f.getModifiers()) && !Modifier.isFinal(f.getModifiers()));
        }
    }
}
