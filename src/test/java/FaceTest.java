import java.lang.reflect.Constructor;
import java.lang.reflect.Field;
import java.lang.reflect.Member;
import java.lang.reflect.Method;
import java.lang.reflect.Modifier;
import java.util.Set;
import java.util.TreeSet;

/** The class has the document's face and no other member that is not private. */
public final class FaceTest {
    private static final Set<String> DUE = Set.of(
        "public static final int NO_KEY", "public static final int NO_BOX", "public static final int CLOSED",
        "public static final int BAD", "public static final int FULL", "public static final int NONE",
        "public SealedTally()",
        "public int SealedTally.key(int,int)", "public int SealedTally.modulus()",
        "public long SealedTally.seal(long,long)", "public long SealedTally.message(long)",
        "public long SealedTally.coin(long)", "public long SealedTally.join(long,long)",
        "public long SealedTally.power(long,int)", "public boolean SealedTally.open(int,int)",
        "public long SealedTally.choice(int,long)", "public int SealedTally.cast(int,long)",
        "public long SealedTally.withdraw(int)", "public long SealedTally.ballot(int)",
        "public int SealedTally.ballots()", "public long SealedTally.sum()", "public long SealedTally.close()",
        "public int SealedTally.votes(int)", "public long SealedTally.witness()",
        "public boolean SealedTally.check(long,long)");

    private static final Set<String> found = new TreeSet<>();

    public static void main(String[] args) {
        for (Field field : SealedTally.class.getDeclaredFields()) {
            note(field, Modifier.toString(field.getModifiers()) + " " + field.getType() + " " + field.getName());
        }
        for (Constructor<?> constructor : SealedTally.class.getDeclaredConstructors()) {
            note(constructor, constructor.toString());
        }
        for (Method method : SealedTally.class.getDeclaredMethods()) {
            note(method, method.toString());
        }
        for (String member : DUE) {
            Expect.same("is there: " + member, found.contains(member), true);
        }
        for (String member : found) {
            Expect.same("is asked for: " + member, DUE.contains(member), true);
        }
        Expect.same("modifiers", SealedTally.class.getModifiers(), Modifier.PUBLIC | Modifier.FINAL);
        constants();
        Expect.finish();
    }

    private static void constants() {
        Expect.same("NO_KEY", SealedTally.NO_KEY, -1);
        Expect.same("NO_BOX", SealedTally.NO_BOX, -2);
        Expect.same("CLOSED", SealedTally.CLOSED, -3);
        Expect.same("BAD", SealedTally.BAD, -4);
        Expect.same("FULL", SealedTally.FULL, -5);
        Expect.same("NONE", SealedTally.NONE, -6);
    }

    private static void note(Member member, String text) {
        if (!Modifier.isPrivate(member.getModifiers())) {
            found.add(text);
        }
    }
}
