import java.io.IOException;
import java.lang.reflect.Constructor;
import java.lang.reflect.Field;
import java.lang.reflect.Member;
import java.lang.reflect.Method;
import java.lang.reflect.Modifier;
import java.util.ArrayList;
import java.util.List;
import java.util.stream.Collectors;
import java.util.stream.Stream;

/** The public face: the members that the document lists, and no other that could be seen from outside. */
final class PublicFace {
    private PublicFace() {
    }

    static void test() throws IOException, ReflectiveOperationException {
        Check.begin("The public face");
        Class<?> type = DiceAudit.class;
        Check.same("the class", "public final class DiceAudit extends Object",
            Modifier.toString(type.getModifiers()) + " class " + type.getName() + " extends " + type.getSuperclass().getSimpleName());
        Check.is("the interfaces", 0, () -> type.getInterfaces().length);
        for (Class<?> inside : type.getDeclaredClasses()) {
            Check.yes(inside + " is static", () -> Modifier.isStatic(inside.getModifiers()));
            Check.no(inside + " is public", () -> Modifier.isPublic(inside.getModifiers()));
            Check.no(inside + " is protected", () -> Modifier.isProtected(inside.getModifiers()));
        }
        List<String> listed = listed();
        List<String> members = members(type);
        for (String member : listed) {
            Check.yes("the class has " + member, () -> members.contains(member));
        }
        for (String member : members) {
            Check.yes("the document has " + member, () -> listed.isEmpty() || listed.contains(member));
        }
    }

    /** The document's lines without the names of the parameters, which a compiled class does not tell. */
    private static List<String> listed() throws IOException {
        List<String> listed = new ArrayList<>();
        boolean within = false;
        for (String line : Doc.lines()) {
            if (line.startsWith("## ")) {
                within = line.equals("## The public face");
            } else if (within && line.startsWith("    public ")) {
                listed.add(line.strip().replace(";", "").replaceAll("(\\w+) \\w+(?=(, [^)]*)?\\))", "$1"));
            }
        }
        return listed;
    }

    private static List<String> members(Class<?> type) throws ReflectiveOperationException {
        List<String> members = new ArrayList<>();
        for (Field field : type.getDeclaredFields()) {
            if (isSeen(field)) {
                members.add(described(field, field.getType(), field.getName()) + " = " + field.get(null));
            }
        }
        for (Constructor<?> constructor : type.getDeclaredConstructors()) {
            if (isSeen(constructor)) {
                members.add(Modifier.toString(constructor.getModifiers()) + " " + constructor.getName()
                    + inBrackets(constructor.getParameterTypes()) + thrown(constructor.getExceptionTypes()));
            }
        }
        for (Method method : type.getDeclaredMethods()) {
            if (isSeen(method)) {
                members.add(described(method, method.getReturnType(), method.getName())
                    + inBrackets(method.getParameterTypes()) + thrown(method.getExceptionTypes()));
            }
        }
        return members;
    }

    private static boolean isSeen(Member member) {
        return !Modifier.isPrivate(member.getModifiers());
    }

    private static String described(Member member, Class<?> type, String name) {
        return Modifier.toString(member.getModifiers()) + " " + type.getSimpleName() + " " + name;
    }

    private static String inBrackets(Class<?>[] types) {
        return "(" + names(types) + ")";
    }

    private static String thrown(Class<?>[] types) {
        return types.length == 0 ? "" : " throws " + names(types);
    }

    private static String names(Class<?>[] types) {
        return Stream.of(types).map(Class::getSimpleName).collect(Collectors.joining(", "));
    }
}
