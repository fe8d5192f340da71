import java.lang.reflect.Constructor;
import java.lang.reflect.Field;
import java.lang.reflect.Method;
import java.lang.reflect.Modifier;
import java.nio.file.Files;
import java.nio.file.Path;
import java.util.HashSet;
import java.util.Set;

/** The public face of the document, rule 1 of LANGUAGE.md, and the signs of the source. */
public final class FaceTest {
    private static final Due DUE = new Due();

    private static final String FACE = "store 1,cellar 2,stones 3,straw 2,slinger 2,cloud 2,type 1,clear 0,read 0,week 1,door 1,"
            + "throwing 4,hour 0,wind 1,undo 0,of 2,has 2,about 2,sky 2,melts 2,then 4,lasts 2,least 3,throwsOf 3,reach 2,turn 4,"
            + "meet 2,doors 2,rings 4,cooled 1,even 1,note 5,flew 5,forget 1,is 1,watch 1,who 1,ask 1,parishes 4,gusts 5,"
            + "summers 2,part 1 long,image 1,from 1,status 1,count 1,digest 0 long";

    private static void face() {
        Set<String> due = new HashSet<>(Set.of(FACE.split(",")));
        Set<String> names = new HashSet<>();
        for (Method m : HailCellar.class.getDeclaredMethods()) {
            if (Modifier.isPrivate(m.getModifiers()) || m.isSynthetic()) {
                continue;
            }
            boolean isLong = m.getReturnType() == long.class;
            String seen = m.getName() + " " + m.getParameterCount() + (isLong ? " long" : "");
            DUE.hold("is in the face: " + m, due.remove(seen) && Modifier.isPublic(m.getModifiers()));
            DUE.hold("answers int or long: " + m, isLong || m.getReturnType() == int.class);
            for (Class<?> p : m.getParameterTypes()) {
                DUE.hold("takes int: " + m, p == int.class);
            }
            names.add(m.getName());
        }
        DUE.hold("all of the face is there, missing " + due, due.isEmpty());
        for (Method m : HailCellar.class.getDeclaredMethods()) {
            DUE.hold("no private method bears a public name: " + m, !Modifier.isPrivate(m.getModifiers()) || !names.contains(m.getName()));
        }
        for (Class<?> inside : HailCellar.class.getDeclaredClasses()) {
            for (Method m : inside.getDeclaredMethods()) {
                DUE.hold("nor does one of a class inside: " + m, !Modifier.isPrivate(m.getModifiers()) || !names.contains(m.getName()));
            }
        }
        Constructor<?>[] all = HailCellar.class.getDeclaredConstructors();
        DUE.hold("one constructor, without numbers", all.length == 1 && all[0].getParameterCount() == 0);
        DUE.hold("public and final", Modifier.isPublic(HailCellar.class.getModifiers()) && Modifier.isFinal(HailCellar.class.getModifiers()));
        for (Field f : HailCellar.class.getDeclaredFields()) {
            boolean constant = Set.of("NONE", "BAD", "NO", "FULL").contains(f.getName());
            DUE.hold("public only if of the face: " + f, constant ? Modifier.isPublic(f.getModifiers()) : Modifier.isPrivate(f.getModifiers()));
        }
    }

    private static void signs() throws Exception {
        String text = Files.readString(Path.of("src/main/java/HailCellar.java"));
        DUE.hold("signs 10 and 32 to 126 alone", text.matches("[\\n -~]*+"));
    }

    public static void main(String[] args) throws Exception {
        face();
        signs();
        DUE.end("FaceTest");
    }
}
