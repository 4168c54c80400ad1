/** Counts checks and tells each one that does not hold; a test's main method ends with finish(). */
final class Checks {
    interface Call {
        int answer();
    }

    interface Use {
        int answer(FrostTubes x);
    }

    interface Recipe {
        FrostTubes make();
    }

    static final Class<?> INDEX = IndexOutOfBoundsException.class;
    static final Class<?> ARGUMENT = IllegalArgumentException.class;
    static final Class<?> STATE = IllegalStateException.class;

    private static int made = 0;
    private static int wrong = 0;
    private static int sentences = 0;
    private static String sentence = "";

    private Checks() {
    }

    /** The test of one sentence of the document; it is told with each of its checks that does not hold. */
    static void sentence(String section, String told, Runnable test) {
        int before = made;
        sentence = section + " \"" + told + "\" ";
        sentences++;
        try {
            test.run();
        } catch (RuntimeException e) {
            tell("its test threw " + e);
        }
        if (made == before) {
            tell("nothing is checked");
        }
        sentence = "";
    }

    static void is(String what, long want, long got) {
        made++;
        if (want != got) {
            tell(what + ": answered " + got + ", due is " + want);
        }
    }

    static void same(String what, String want, String got) {
        made++;
        if (!want.equals(got)) {
            tell(what + ":\n  saw " + got + "\n  due " + want);
        }
    }

    /** The class must be the very one, since the machine's own exceptions are below the ones that are due. */
    static void refuses(String what, Class<?> want, Call call) {
        made++;
        String got;
        try {
            got = "answer " + call.answer();
        } catch (RuntimeException e) {
            if (e.getClass() == want) {
                return;
            }
            got = e.toString();
        }
        tell(what + ": " + got + ", due is " + want.getSimpleName());
    }

    /** The call throws, and the object is then as its twin, with which nothing has been tried. */
    static void refusesAndChangesNothing(String what, Class<?> want, Recipe recipe, Use use) {
        refuses(what, want, () -> use.answer(recipe.make()));
        changesNothing(what, recipe, use);
    }

    /** The call may throw or not. */
    static void changesNothing(String what, Recipe recipe, Use use) {
        same(what + " changes nothing", Looks.everything(recipe, x -> 0), Looks.everything(recipe, use));
    }

    private static void tell(String what) {
        wrong++;
        System.out.println(sentence + what);
    }

    static void finish(String test) {
        String told = sentences == 0 ? "" : " of " + sentences + " sentences";
        System.out.println(test + ": " + made + " checks" + told + ", " + wrong + " wrong");
        if (wrong > 0 || made == 0) {
            System.exit(1);
        }
    }
}
