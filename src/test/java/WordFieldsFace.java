import java.lang.reflect.Constructor;
import java.lang.reflect.Field;
import java.lang.reflect.Member;
import java.lang.reflect.Method;
import java.lang.reflect.Modifier;
import java.util.ArrayList;
import java.util.List;
import java.util.Set;
import java.util.TreeSet;

// The class shows the document's face and nothing else (LANGUAGE.md, rules 1 and 5).
public final class WordFieldsFace {
    private static final Set<String> FACE = new TreeSet<>(List.of(
        "public static final int WordFields.NONE",
        "public WordFields()",
        "public boolean WordFields.set(int,int,boolean)",
        "public int WordFields.value(int)",
        "public int WordFields.byteOf(int,int)",
        "public boolean WordFields.load(int,int,int)",
        "public boolean WordFields.store(int,int,int)",
        "public boolean WordFields.turn(int)",
        "public int WordFields.compare(int,int,int)",
        "public boolean WordFields.isField(int)",
        "public int WordFields.letter(int)",
        "public int WordFields.code(int)"));

    private static int wrong = 0;

    public static void main(String[] args) {
        Class<WordFields> face = WordFields.class;
        due("the class's modifiers", Modifier.toString(face.getModifiers()), "public final");
        Set<String> shown = new TreeSet<>();
        Set<String> publicNames = new TreeSet<>();
        List<String> hiddenNames = new ArrayList<>();
        for (Field field : face.getDeclaredFields()) {
            note(field, field.toString(), shown);
            if (Modifier.isStatic(field.getModifiers())) {
                due("final of " + field.getName(), Modifier.isFinal(field.getModifiers()), true);
            }
        }
        for (Constructor<?> constructor : face.getDeclaredConstructors()) {
            note(constructor, constructor.toString(), shown);
        }
        for (Method method : face.getDeclaredMethods()) {
            note(method, method.toString(), shown);
            if (Modifier.isPublic(method.getModifiers())) {
                publicNames.add(method.getName());
            } else {
                hiddenNames.add(method.getName());
            }
        }
        due("the members that are not private", shown, FACE);
        for (String name : hiddenNames) {
            due("a private method named as a public one, " + name, publicNames.contains(name), false);
        }
        System.out.println(wrong == 0 ? "the face is as due" : wrong + " parts of the face are not as due");
        if (wrong != 0) {
            System.exit(1);
        }
    }

    private static void note(Member member, String text, Set<String> shown) {
        if (!Modifier.isPrivate(member.getModifiers())) {
            shown.add(text);
        }
    }

    private static void due(String what, Object got, Object want) {
        if (!got.equals(want)) {
            wrong++;
            System.out.println(what + ": " + got + ", due is " + want);
        }
    }
}
