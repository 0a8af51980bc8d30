/** Compares answers with those that are due, and tells at the end. */
final class Due {
    static final Class<?> INDEX = IndexOutOfBoundsException.class;
    static final Class<?> ARGUMENT = IllegalArgumentException.class;
    static final Class<?> STATE = IllegalStateException.class;

    private final String name;
    private int count;
    private int wrong;

    Due(String name) {
        this.name = name;
    }

    void is(String what, Object got, Object due) {
        count++;
        if (!due.equals(got)) {
            wrong++;
            System.out.println(name + ": " + what + " answered " + got + ", due is " + due);
        }
    }

    /** The call must throw just that, and change nothing that can be asked. */
    void no(Licenceweave x, Class<?> due, String what, Runnable call) {
        long digest = x.digest();
        String typed = x.typed();
        Object got = "nothing";
        try {
            call.run();
        } catch (RuntimeException e) {
            got = e.getClass();
        }
        is(what + " throws", got, due);
        is(what + " changes nothing:", x.digest() + x.typed(), digest + typed);
    }

    void end() {
        System.out.println(name + ": " + count + " answers, " + wrong + " wrong");
        if (wrong > 0) {
            System.exit(1);
        }
    }
}
