import java.util.NoSuchElementException;

/** Counts the answers of one test that are not as due, and tells them. */
final class Check {
    interface Scene {
        OrderRows3 make();
    }

    interface Call {
        long on(OrderRows3 x);
    }

    static final Class<? extends RuntimeException> NO_SUCH = NoSuchElementException.class;
    static final Class<? extends RuntimeException> ARGUMENT = IllegalArgumentException.class;
    static final Class<? extends RuntimeException> STATE = IllegalStateException.class;
    static final Class<? extends RuntimeException> NO_ROOM = UnsupportedOperationException.class;

    private final String name;
    private int asked = 0;
    private int wrong = 0;

    Check(String name) {
        this.name = name;
    }

    void due(String what, long due, long got) {
        asked++;
        if (got != due) {
            tell(what + " answered " + got + ", due is " + due);
        }
    }

    void due(String what, String due, String got) {
        asked++;
        if (!got.equals(due)) {
            tell(what + ":\n  is  " + got + "\n  due " + due);
        }
    }

    /** The call throws just this, and leaves its object like a twin that was never asked. */
    void refuses(String what, Class<? extends RuntimeException> due, Scene scene, Call call) {
        OrderRows3 x = scene.make();
        due(what, due.getName(), outcome(x, call));
        due("the state after " + what, State.of(scene.make()), State.of(x));
    }

    /** The call answers this, and leaves its object like a twin that was never asked. */
    void keeps(String what, long due, Scene scene, Call call) {
        OrderRows3 x = scene.make();
        due(what, Long.toString(due), outcome(x, call));
        due("the state after " + what, State.of(scene.make()), State.of(x));
    }

    static String outcome(OrderRows3 x, Call call) {
        try {
            return Long.toString(call.on(x));
        } catch (RuntimeException e) {
            return e.getClass().getName();
        }
    }

    void end() {
        System.out.println(name + ": " + asked + " asked, " + wrong + " wrong");
        if (wrong != 0) {
            System.exit(1);
        }
    }

    private void tell(String text) {
        wrong++;
        System.out.println(name + ": " + text);
    }
}
