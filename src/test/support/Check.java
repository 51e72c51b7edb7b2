/** Counts answers that are not as due, and the short names that the tests share. */
final class Check {
    static final int OLD = 0;
    static final int NOW = 1;
    static final int NO_SUPER = 6;

    static final int READ = 0;
    static final int WRITE = 1;
    static final int CALL = 2;
    static final int CALL_STATIC = 3;
    static final int NEW = 4;
    static final int EXTEND = 5;
    static final int OVERRIDE = 6;

    static final int NONE = 0;
    static final int INT = 1;
    static final int LONG = 2;
    static final int DOUBLE = 3;
    static final int FIELD = 4;

    static final int INT_FIELD = 0;
    static final int DOUBLE_FIELD = 1;
    static final int STATIC_FINAL = ApiCompare.STATIC | ApiCompare.FINAL;
    static final int FIXED_VALUE = STATIC_FINAL | ApiCompare.CONSTANT;

    private int looked;
    private int wrong;

    static int fieldSpot(int version, int type, int kind) {
        return 12 * version + 2 * type + kind;
    }

    static int methodSpot(int version, int type) {
        return 6 * version + type;
    }

    static int sign(int parameter, int answer) {
        return 4 * parameter + answer;
    }

    /** An object with the class 0 in the old version. */
    static ApiCompare withClass() {
        ApiCompare x = new ApiCompare();
        x.type(OLD, 0, 0, NO_SUPER, 0);
        return x;
    }

    void due(String what, int got, int want) {
        note(got == want, what, String.valueOf(got), String.valueOf(want));
    }

    void due(String what, double got, double want) {
        note(Double.compare(got, want) == 0, what, String.valueOf(got), String.valueOf(want));
    }

    void due(String what, boolean got, boolean want) {
        note(got == want, what, String.valueOf(got), String.valueOf(want));
    }

    void due(String what, String got, String want) {
        note(got.equals(want), what, got, want);
    }

    private void note(boolean right, String what, String got, String want) {
        looked++;
        if (!right) {
            wrong++;
            System.out.println(what + " answered " + got + ", due is " + want);
        }
    }

    boolean isClean() {
        return wrong == 0;
    }

    void end() {
        System.out.println(looked + " answers looked at, " + wrong + " not as due");
        if (wrong != 0 || looked == 0) {
            System.exit(1);
        }
    }
}
