import java.lang.reflect.Constructor;
import java.lang.reflect.Field;
import java.lang.reflect.Method;
import java.lang.reflect.Modifier;
import java.util.ArrayList;
import java.util.Arrays;
import java.util.Collections;
import java.util.List;

/** The class's face is that of the document, and nothing more can be seen of it. */
public final class FaceTest {
    private static final String[] FACE = {
        "public LightRays(int)",
        "public boolean LightRays.off(int,boolean) throws java.lang.IllegalArgumentException",
        "public int LightRays.best(int,int,int,int,int,int,int) throws java.lang.IllegalArgumentException",
        "public int LightRays.box(int,int,int,int,int,int)"
            + " throws java.lang.IllegalArgumentException,java.lang.IllegalStateException",
        "public int LightRays.fan(int,int,int) throws java.lang.IllegalArgumentException,java.lang.IllegalStateException",
        "public int LightRays.hit(int,int) throws java.lang.IllegalArgumentException,java.lang.IllegalStateException",
        "public int LightRays.kind(int,int,int) throws java.lang.IllegalArgumentException",
        "public int LightRays.noFan()",
        "public int LightRays.ray(int,int,int,int,int,int) throws java.lang.IllegalArgumentException",
        "public int LightRays.sky(int,int) throws java.lang.IllegalArgumentException",
        "public int LightRays.told(int) throws java.lang.IllegalArgumentException,java.lang.IllegalStateException",
        "public long LightRays.measure(int,int,int) throws java.lang.IllegalArgumentException",
        "public long LightRays.place(int,int,int) throws java.lang.IllegalArgumentException",
        "public static final int LightRays.NONE",
    };

    public static void main(String[] args) {
        List<String> seen = new ArrayList<>();
        for (Constructor<?> c : LightRays.class.getDeclaredConstructors()) {
            seen.add(c.toString());
        }
        for (Method m : LightRays.class.getDeclaredMethods()) {
            if (!Modifier.isPrivate(m.getModifiers())) {
                seen.add(m.toString());
            }
        }
        for (Field f : LightRays.class.getDeclaredFields()) {
            if (!Modifier.isPrivate(f.getModifiers())) {
                seen.add(f.toString());
            }
        }
        Collections.sort(seen);
        List<String> want = new ArrayList<>(Arrays.asList(FACE));
        Collections.sort(want);
        Check.told("the face", want.toString(), seen.toString());
        Check.due("public", true, Modifier.isPublic(LightRays.class.getModifiers()));
        Check.due("final", true, Modifier.isFinal(LightRays.class.getModifiers()));
        Check.end();
    }
}
