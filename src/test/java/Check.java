import java.util.NoSuchElementException;

/** Counts the answers of one test that are not as due, and tells them. */
final class Check {
    interface Scene {
        OrderRows3 make();
    }

    interface Call {
        long on(OrderRows3 x);
    }

    interface Ask {
        long with(OrderRows3 x, int v);
    }

    static final Class<? extends RuntimeException> NO_SUCH = NoSuchElementException.class;
    static final Class<? extends RuntimeException> ARGUMENT = IllegalArgumentException.class;
    static final Class<? extends RuntimeException> STATE = IllegalStateException.class;
    static final Class<? extends RuntimeException> NO_ROOM = UnsupportedOperationException.class;

    private final String name;
    private int asked = 0;
    private int wrong = 0;

    Check(String name) {
        this.name = name;
    }

    void due(String what, long due, long got) {
        asked++;
        if (got != due) {
            tell(what + " answered " + got + ", due is " + due);
        }
    }

    void due(String what, String due, String got) {
        asked++;
        if (!got.equals(due)) {
            tell(what + ":\n  is  " + got + "\n  due " + due);
        }
    }

    /** The call answers this on a new object of the scene. */
    void answers(String what, long due, Scene scene, Call call) {
        due(what, Long.toString(due), outcome(scene.make(), call));
    }

    /** The call throws just this, and changes nothing. */
    void refuses(String what, Class<? extends RuntimeException> due, Scene scene, Call call) {
        leavesAsItWas(what, due.getName(), scene, call);
    }

    /** The call answers this, and changes nothing. */
    void keeps(String what, long due, Scene scene, Call call) {
        leavesAsItWas(what, Long.toString(due), scene, call);
    }

    /** At both ends of the range and at the ends of int the call throws this, and changes nothing. */
    void refusesOutside(String what, Class<? extends RuntimeException> due, int least, int most, Scene scene,
            Ask ask) {
        int[] outside = {Integer.MIN_VALUE, Integer.MIN_VALUE + 1, least - 1, most + 1, Integer.MAX_VALUE - 1,
            Integer.MAX_VALUE};
        for (int v : outside) {
            refuses(what + " " + v, due, scene, x -> ask.with(x, v));
        }
    }

    /** What the call was given at an end of the range, or beside it inside, is told then. */
    void tellsInside(String what, int least, int most, Scene scene, Ask ask, Call told) {
        int[] inside = {least, least + 1, most - 1, most};
        for (int v : inside) {
            OrderRows3 x = scene.make();
            String answer = outcome(x, y -> ask.with(y, v));
            due(what + " " + v + " threw " + answer, 0, threw(answer) ? 1 : 0);
            due(what + " " + v + ", told then", Long.toString(v), outcome(x, told));
        }
    }

    /** A number of the document's ranges: told inside, an IllegalArgumentException outside. */
    void range(String what, int least, int most, Scene scene, Ask ask, Call told) {
        tellsInside(what, least, most, scene, ask, told);
        refusesOutside(what, ARGUMENT, least, most, scene, ask);
    }

    static String outcome(OrderRows3 x, Call call) {
        try {
            return Long.toString(call.on(x));
        } catch (RuntimeException e) {
            return e.getClass().getName();
        }
    }

    static boolean threw(String outcome) {
        return outcome.startsWith("java.");
    }

    void end() {
        System.out.println(name + ": " + asked + " asked, " + wrong + " wrong");
        if (wrong != 0) {
            System.exit(1);
        }
    }

    // Twins are made for each look, since an object is promised for 512 calls alone.
    private void leavesAsItWas(String what, String due, Scene scene, Call call) {
        OrderRows3 x = scene.make();
        due(what, due, outcome(x, call));
        due("the state after " + what, State.of(scene.make()), State.of(x));
        OrderRows3 y = scene.make();
        outcome(y, call);
        due("what comes after " + what, Sequel.of(scene.make()), Sequel.of(y));
    }

    private void tell(String text) {
        wrong++;
        System.out.println(name + ": " + text);
    }
}
