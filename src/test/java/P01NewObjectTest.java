import java.lang.reflect.Constructor;
import java.lang.reflect.Field;
import java.lang.reflect.Member;
import java.lang.reflect.Method;
import java.lang.reflect.Modifier;
import java.util.ArrayList;
import java.util.Collections;
import java.util.List;

/** Promise 1, and that the class has the document's face and no more. */
public final class P01NewObjectTest {
    private static final List<String> FACE = List.of(
            "NONE:int", "ReversibleParts()", "apply(int):boolean", "begin(int):boolean",
            "form(int,int):int", "gate(int):int", "look(int):int", "marks():int", "move(int,int):int",
            "need(int,int):boolean", "product(int):int", "program(int):boolean",
            "put(int,int):boolean", "total(int):int");

    public static void main(String[] args) {
        newObject();
        objectsStandAlone();
        face();
        Check.finish();
    }

    private static void newObject() {
        ReversibleParts x = new ReversibleParts();
        Check.due("total(0)", x.total(0), 1);
        Check.due("total(1)", x.total(1), 1);
        Check.due("total(2)", x.total(2), 1);
        Check.due("total(3)", x.total(3), 1);
        Check.due("total(4)", x.total(4), 3);
        Check.due("the table", Parts.table(x), new int[] {0, 1});
        Check.due("look(2)", x.look(2), Parts.NONE);
        Check.due("the gates", Parts.gates(x), new int[0]);
        Check.due("marks()", x.marks(), 1);
        Check.due("the moves for 1", Parts.moves(x, 1), new int[] {0});
        Check.due("form of 2", Parts.form(x, 2), new int[] {1});
    }

    private static void objectsStandAlone() {
        ReversibleParts x = Parts.table(2, 3, 2, 1, 0);
        x.program(3);
        x.need(2, 3);
        ReversibleParts y = new ReversibleParts();
        Check.due("a second object's total(0)", y.total(0), 1);
        Check.due("a second object's total(1)", y.total(1), 1);
        Check.due("a second object's look(0)", y.look(0), 0);
        y.begin(4);
        y.program(5);
        Check.due("the first one's table", Parts.table(x), new int[] {3, 2, 1, 0});
        Check.due("the first one's marks()", x.marks(), 3);
    }

    private static void face() {
        Check.due("NONE", ReversibleParts.NONE, -1);
        List<String> seen = new ArrayList<>();
        for (Field field : ReversibleParts.class.getDeclaredFields()) {
            addSeen(seen, field, field.getName() + ":" + field.getType().getName());
        }
        for (Constructor<?> made : ReversibleParts.class.getDeclaredConstructors()) {
            addSeen(seen, made, "ReversibleParts" + parameters(made.getParameterTypes()));
        }
        for (Method method : ReversibleParts.class.getDeclaredMethods()) {
            String shape = method.getName() + parameters(method.getParameterTypes());
            addSeen(seen, method, shape + ":" + method.getReturnType().getName());
        }
        Collections.sort(seen);
        Check.due("the face " + seen, seen.equals(FACE), true);
        Check.due("public final", ReversibleParts.class.getModifiers(), Modifier.PUBLIC | Modifier.FINAL);
    }

    private static void addSeen(List<String> seen, Member member, String shape) {
        if (!Modifier.isPrivate(member.getModifiers()) && !member.isSynthetic()) {
            Check.due(shape + " is public", Modifier.isPublic(member.getModifiers()), true);
            seen.add(shape);
        }
    }

    private static String parameters(Class<?>[] types) {
        List<String> names = new ArrayList<>();
        for (Class<?> type : types) {
            names.add(type.getName());
        }
        return "(" + String.join(",", names) + ")";
    }
}
