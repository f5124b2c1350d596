import java.lang.reflect.Constructor;
import java.lang.reflect.Field;
import java.lang.reflect.Method;
import java.lang.reflect.Modifier;
import java.util.Set;
import java.util.TreeSet;

/** The face: just the members that the document tells are not private. */
public final class FaceTest {
    private static final String[] FACE = {
        "cell(int,int)", "shape(int,int,int)", "cells(int)", "set(int,int)", "cause(int,int)", "ofCause(int,int)",
        "as(int,int)", "turn(int,int)", "freezes(int,int,int,int)", "feed(long,int)", "text(int)",
        "law(int,int,int,int)", "ticks(int)", "gusts(int)", "mass()", "ring(int)", "apart()", "then(int,int)",
        "wide(int,int)", "pace(int)", "needed(int)", "little(int,int)", "breaks(int)", "falls(int)", "off(int)",
        "made(int,int,int)", "blown(int,int)", "box(int,int,int)", "tries(int)", "seed(int)", "voice(int,int,int)",
        "trace(int)", "sheet(int,int,int)", "put(int,int,int)", "move(int,int,int,int,int)", "draw(int)", "image()",
        "restore()", "tell(int)", "check(int)", "count(int)", "told(int)"
    };

    public static void main(String[] args) {
        Set<String> want = new TreeSet<>(Set.of(FACE));
        Set<String> got = new TreeSet<>();
        Set<String> names = new TreeSet<>();
        for (Method m : IcicleRings.class.getDeclaredMethods()) {
            if (Modifier.isPrivate(m.getModifiers())) {
                continue;
            }
            StringBuilder b = new StringBuilder(m.getName()).append('(');
            for (Class<?> p : m.getParameterTypes()) {
                b.append(b.charAt(b.length() - 1) == '(' ? "" : ",").append(p.getName());
            }
            got.add(b.append(')').toString());
            names.add(m.getName());
            Checks.holds(m + " is public and answers an int",
                Modifier.isPublic(m.getModifiers()) && m.getReturnType() == int.class);
        }
        Checks.holds("the face is " + want + ", it is " + got + ": that", got.equals(want));
        for (Method m : IcicleRings.class.getDeclaredMethods()) {
            Checks.holds(m + " has a name of its own",
                !Modifier.isPrivate(m.getModifiers()) || !names.contains(m.getName()));
        }
        for (Field f : IcicleRings.class.getDeclaredFields()) {
            Checks.holds(f + " is private", Modifier.isPrivate(f.getModifiers()));
        }
        Constructor<?>[] makers = IcicleRings.class.getDeclaredConstructors();
        Checks.holds("one public constructor without parameters",
            makers.length == 1 && Modifier.isPublic(makers[0].getModifiers()) && makers[0].getParameterCount() == 0);
        Checks.holds("public and final", Modifier.isPublic(IcicleRings.class.getModifiers())
            && Modifier.isFinal(IcicleRings.class.getModifiers()));
        for (Class<?> c : IcicleRings.class.getDeclaredClasses()) {
            Checks.holds(c + " is static and not public", Modifier.isStatic(c.getModifiers())
                && !Modifier.isPublic(c.getModifiers()) && !Modifier.isProtected(c.getModifiers()));
        }
        Checks.end();
    }
}
