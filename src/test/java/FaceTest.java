import java.lang.reflect.Constructor;
import java.lang.reflect.Field;
import java.lang.reflect.Method;
import java.lang.reflect.Modifier;
import java.nio.file.Files;
import java.nio.file.Path;
import java.util.ArrayList;
import java.util.Collections;
import java.util.List;

/** The class has the document's face, read from the document itself, and no more. */
public final class FaceTest {
    public static void main(String[] args) throws Exception {
        List<String> document = new ArrayList<>();
        for (String line : Files.readAllLines(Path.of("..", "shared", "DOC.md"))) {
            if (line.startsWith("    public ")) {
                document.add(line.trim().replaceAll(" [a-z]+(?=[,)])", "").replace(", ", ","));
            }
        }
        List<String> face = new ArrayList<>();
        int hidden = 0;
        for (Field f : TypedBlood.class.getDeclaredFields()) {
            if (Modifier.isPublic(f.getModifiers())) {
                face.add(Modifier.toString(f.getModifiers()) + " int " + f.getName() + " = " + f.getInt(null) + ";");
            } else if (!Modifier.isPrivate(f.getModifiers())) {
                hidden++;
            }
        }
        for (Constructor<?> c : TypedBlood.class.getDeclaredConstructors()) {
            face.add(Modifier.toString(c.getModifiers()) + " TypedBlood();");
        }
        List<String> publicNames = new ArrayList<>();
        List<String> privateNames = new ArrayList<>();
        for (Method m : TypedBlood.class.getDeclaredMethods()) {
            if (Modifier.isPublic(m.getModifiers())) {
                face.add(written(m));
                publicNames.add(m.getName());
            } else if (Modifier.isPrivate(m.getModifiers())) {
                privateNames.add(m.getName());
            } else {
                hidden++;
            }
        }
        Collections.sort(document);
        Collections.sort(face);
        Check.same("the document's face has lines", document.size(), 31);
        for (int i = 0; i < document.size(); i++) {
            Check.same("the face", i < face.size() ? face.get(i) : "", document.get(i));
        }
        Check.same("the face's size", face.size(), document.size());
        Check.same("members that are neither public nor private", hidden, 0);
        privateNames.retainAll(publicNames);
        Check.same("private methods with a public name", privateNames.toString(), "[]");
        Check.same("the class", Modifier.toString(TypedBlood.class.getModifiers()), "public final");
        for (Class<?> inside : TypedBlood.class.getDeclaredClasses()) {
            int m = inside.getModifiers();
            Check.same(inside.getName() + " is static", Modifier.isStatic(m) ? 1 : 0, 1);
            Check.same(inside.getName() + " is not public", Modifier.isPublic(m) || Modifier.isProtected(m) ? 1 : 0, 0);
        }
        Check.same("NONE", TypedBlood.NONE, -1);
        Check.finish();
    }

    private static String written(Method m) {
        StringBuilder text = new StringBuilder();
        text.append(Modifier.toString(m.getModifiers())).append(' ').append(m.getReturnType().getName());
        text.append(' ').append(m.getName()).append('(').append(names(m.getParameterTypes())).append(')');
        if (m.getExceptionTypes().length > 0) {
            text.append(" throws ").append(names(m.getExceptionTypes()).replace("java.lang.", ""));
        }
        return text.append(';').toString();
    }

    private static String names(Class<?>[] types) {
        StringBuilder text = new StringBuilder();
        for (Class<?> type : types) {
            text.append(text.length() > 0 ? "," : "").append(type.getName());
        }
        return text.toString();
    }
}
