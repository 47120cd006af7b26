import java.util.Objects;

/** What the tests share: answers are compared, exceptions are named, and wrong ones are counted. */
final class Checks {
    interface Call {
        Object answer();
    }

    private static int wrong = 0;
    private static int made = 0;

    private Checks() {
    }

    static void due(String what, Object got, Object want) {
        made++;
        if (!Objects.equals(plain(got), plain(want))) {
            wrong++;
            System.out.println(what + " answered " + got + ", due is " + want);
        }
    }

    /** The answer of a call, or the name of the exception that it throws. */
    static Object of(Call call) {
        try {
            return plain(call.answer());
        } catch (RuntimeException e) {
            return e.getClass().getSimpleName();
        }
    }

    static void due(String what, Call call, Object want) {
        due(what, of(call), want);
    }

    static Object run(Runnable call) {
        return of(() -> {
            call.run();
            return "nothing";
        });
    }

    static void runs(String what, Runnable call) {
        due(what, run(call), "nothing");
    }

    static void fails(String what, Runnable call, String exception) {
        due(what, run(call), exception);
    }

    static void end(String name) {
        System.out.println(name + ": " + made + " answers, " + wrong + " not as due");
        System.exit(wrong == 0 && made > 0 ? 0 : 1);
    }

    private static Object plain(Object x) {
        return x instanceof Integer ? Long.valueOf((Integer) x) : x;
    }
}
