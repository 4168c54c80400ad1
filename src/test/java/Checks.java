/** Counts checks and tells each one that does not hold; a test's main method ends with finish(). */
final class Checks {
    interface Call {
        int answer();
    }

    interface Use {
        int answer(FrostTubes x);
    }

    interface Recipe {
        FrostTubes make();
    }

    static final Class<?> INDEX = IndexOutOfBoundsException.class;
    static final Class<?> ARGUMENT = IllegalArgumentException.class;
    static final Class<?> STATE = IllegalStateException.class;

    private static int made = 0;
    private static int wrong = 0;

    private Checks() {
    }

    static void is(String what, long want, long got) {
        made++;
        if (want != got) {
            wrong++;
            System.out.println(what + ": answered " + got + ", due is " + want);
        }
    }

    static void same(String what, String want, String got) {
        made++;
        if (!want.equals(got)) {
            wrong++;
            System.out.println(what + ":\n  saw " + got + "\n  due " + want);
        }
    }

    /** The class must be the very one, since the machine's own exceptions are below the ones that are due. */
    static void refuses(String what, Class<?> want, Call call) {
        made++;
        String got;
        try {
            got = "answer " + call.answer();
        } catch (RuntimeException e) {
            if (e.getClass() == want) {
                return;
            }
            got = e.toString();
        }
        wrong++;
        System.out.println(what + ": " + got + ", due is " + want.getSimpleName());
    }

    /** The call throws, and the object is then as its twin, with which nothing has been tried. */
    static void refusesAndChangesNothing(String what, Class<?> want, Recipe recipe, Use use) {
        FrostTubes tried = recipe.make();
        refuses(what, want, () -> use.answer(tried));
        same(what + " changes nothing", Looks.everything(recipe.make()), Looks.everything(tried));
    }

    static void changesNothing(String what, Recipe recipe, Use use) {
        FrostTubes tried = recipe.make();
        use.answer(tried);
        same(what + " changes nothing", Looks.everything(recipe.make()), Looks.everything(tried));
    }

    static void finish(String test) {
        System.out.println(test + ": " + made + " checks, " + wrong + " wrong");
        if (wrong > 0 || made == 0) {
            System.exit(1);
        }
    }
}
