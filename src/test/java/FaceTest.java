import java.lang.reflect.Constructor;
import java.lang.reflect.Field;
import java.lang.reflect.Method;
import java.lang.reflect.Modifier;
import java.util.TreeSet;

/** The public face is the document's, and no other. */
public final class FaceTest {
    private static final String ELEMENT = "java.util.NoSuchElementException";
    private static final String ARGUMENT = "java.lang.IllegalArgumentException";
    private static final String STATE = "java.lang.IllegalStateException";
    private static final String ROOM = "java.lang.UnsupportedOperationException";

    private static final String[] DUE = {
        "public OrderRows3()",
        "public int OrderRows3.order(int,int,int,int) throws " + ARGUMENT + "," + ROOM,
        "public int OrderRows3.line(int,int,int,int) throws " + ELEMENT + "," + ARGUMENT + "," + STATE + "," + ROOM,
        "public int OrderRows3.hold(int,int) throws " + ELEMENT + "," + ARGUMENT + "," + STATE,
        "public int OrderRows3.pick(int,int) throws " + ELEMENT + "," + ARGUMENT + "," + STATE,
        "public int OrderRows3.goOn(int) throws " + ELEMENT + "," + STATE,
        "public boolean OrderRows3.change(int,int,int) throws " + ELEMENT + "," + ARGUMENT + "," + STATE,
        "public boolean OrderRows3.move(int,int) throws " + ELEMENT + "," + ARGUMENT,
        "public int OrderRows3.cancel(int) throws " + ELEMENT + "," + STATE,
        "public void OrderRows3.join(int,int) throws " + ELEMENT + "," + STATE + "," + ROOM,
        "public int OrderRows3.block(int,int,boolean) throws " + ELEMENT + "," + ARGUMENT + "," + STATE,
        "public int OrderRows3.backorder(int) throws " + ELEMENT + "," + STATE + "," + ROOM,
        "public int OrderRows3.ready(int) throws " + ARGUMENT,
        "public int OrderRows3.told(int,int) throws " + ELEMENT + "," + ARGUMENT,
        "public int OrderRows3.lineOf(int,int) throws " + ELEMENT + "," + ARGUMENT,
        "public long OrderRows3.packed(int) throws " + ELEMENT,
        "public int OrderRows3.count(int)",
    };

    public static void main(String[] args) {
        Check check = new Check("face");
        check.due("the class", "public final", Modifier.toString(OrderRows3.class.getModifiers()));
        TreeSet<String> due = new TreeSet<>();
        for (String member : DUE) {
            due.add(member);
        }
        check.due("the members that are not private", due.toString(), visible().toString());
        check.end();
    }

    private static TreeSet<String> visible() {
        TreeSet<String> members = new TreeSet<>();
        for (Constructor<?> made : OrderRows3.class.getDeclaredConstructors()) {
            addVisible(members, made.getModifiers(), made.toString());
        }
        for (Method method : OrderRows3.class.getDeclaredMethods()) {
            addVisible(members, method.getModifiers(), method.toString());
        }
        for (Field field : OrderRows3.class.getDeclaredFields()) {
            addVisible(members, field.getModifiers(), field.toString());
        }
        return members;
    }

    private static void addVisible(TreeSet<String> members, int modifiers, String text) {
        if (!Modifier.isPrivate(modifiers)) {
            members.add(text);
        }
    }
}
