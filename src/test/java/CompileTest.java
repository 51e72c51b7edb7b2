/** Promises 9 and 12: compiling a use against a version, and the value it is bound to. */
public final class CompileTest {
    private static final int NO_TYPE = ApiCompare.NO_TYPE;
    private static final int NO_MEMBER = ApiCompare.NO_MEMBER;
    private static final int FIXED = ApiCompare.FIXED;
    private static final int HIDDEN = ApiCompare.HIDDEN;
    private static final int FINAL = ApiCompare.FINAL;
    private static final int STATIC = ApiCompare.STATIC;
    private static final int INTERFACE = ApiCompare.INTERFACE;
    private static final Check check = new Check();

    public static void main(String[] args) {
        numbersOutOfRange();
        typeNotThereOrHidden();
        fields();
        fieldIsFoundInItsOrder();
        hiddenFieldEndsTheSearch();
        argumentsAndWhatTakesThem();
        calls();
        methodIsFoundInItsOrder();
        hiddenMethodsArePassedOver();
        newOnes();
        extending();
        overriding();
        values();
        check.end();
    }

    private static ApiCompare withUse(int kind, int name, int argument) {
        ApiCompare x = Check.withClass();
        x.use(kind, 0, name, argument);
        return x;
    }

    private static void numbersOutOfRange() {
        ApiCompare x = withUse(Check.NEW, 0, 0);
        check.due("9 use -1", x.compile(-1, 0), ApiCompare.REFUSED);
        check.due("9 use 1 of one", x.compile(1, 0), ApiCompare.REFUSED);
        check.due("9 use 16", x.compile(16, 0), ApiCompare.REFUSED);
        check.due("9 version -1", x.compile(0, -1), ApiCompare.REFUSED);
        check.due("9 version 2", x.compile(0, 2), ApiCompare.REFUSED);
        check.due("9 version 0", x.compile(0, 0), 0);
        check.due("9 version 1", x.compile(0, 1), NO_TYPE);
    }

    private static void typeNotThereOrHidden() {
        for (int kind = 0; kind < 7; kind++) {
            ApiCompare x = new ApiCompare();
            x.use(kind, 0, 0, 0);
            check.due("9 no type, kind " + kind, x.compile(0, 0), NO_TYPE);
            x.type(0, 0, 0, 6, 0);
            x.field(0, 0, 0, 0);
            x.method(0, 0, 0, kind == Check.CALL_STATIC ? STATIC : 0);
            check.due("9 all there, kind " + kind, x.compile(0, 0), 0);
            x.type(0, 0, HIDDEN | FINAL | ApiCompare.ABSTRACT, 6, 0);
            check.due("9 hidden comes first, kind " + kind, x.compile(0, 0), NO_TYPE);
        }
    }

    private static void fields() {
        ApiCompare x = withUse(Check.READ, 1, 0);
        x.use(Check.WRITE, 0, 1, 0);
        x.field(0, 0, 0, 0);
        check.due("9 READ of another name", x.compile(0, 0), NO_MEMBER);
        check.due("9 WRITE of another name", x.compile(1, 0), NO_MEMBER);
        for (int flags = 0; flags < 32; flags++) {
            if (x.field(0, 1, flags, 3) != 0) {
                continue;
            }
            boolean hidden = (flags & HIDDEN) != 0;
            check.due("9 READ, flags " + flags, x.compile(0, 0), hidden ? NO_MEMBER : 0);
            int due = hidden ? NO_MEMBER : (flags & FINAL) != 0 ? FIXED : 0;
            check.due("9 WRITE, flags " + flags, x.compile(1, 0), due);
        }
    }

    /** 5 is a class under 4 (a class) with the interfaces 1 and 3; 3 is under 2, 4 under 0. */
    private static ApiCompare family() {
        ApiCompare x = new ApiCompare();
        x.type(0, 0, INTERFACE, 6, 0);
        x.type(0, 1, INTERFACE, 6, 0);
        x.type(0, 2, INTERFACE, 6, 0);
        x.type(0, 3, INTERFACE, 6, 1 << 2);
        x.type(0, 4, 0, 6, 1 << 0);
        x.type(0, 5, 0, 4, 1 << 1 | 1 << 3);
        return x;
    }

    private static void fieldIsFoundInItsOrder() {
        ApiCompare x = family();
        x.use(Check.READ, 5, 0, 0);
        check.due("9 no field at all", x.compile(0, 0), NO_MEMBER);
        int[] fromLastToFirst = {0, 4, 2, 3, 1, 5};
        for (int type : fromLastToFirst) {
            x.field(Check.fieldSpot(0, type, Check.INT_FIELD), 0, Check.FIXED_VALUE, 10 + type);
            check.due("12 found in " + type, x.value(0, 0), 10.0 + type);
        }
    }

    private static void hiddenFieldEndsTheSearch() {
        ApiCompare x = family();
        x.use(Check.READ, 5, 0, 0);
        x.field(Check.fieldSpot(0, 4, Check.INT_FIELD), 0, 0, 0);
        check.due("9 the super's", x.compile(0, 0), 0);
        x.field(Check.fieldSpot(0, 2, Check.INT_FIELD), 0, HIDDEN, 0);
        check.due("9 a hidden one before it", x.compile(0, 0), NO_MEMBER);
        x.field(Check.fieldSpot(0, 1, Check.DOUBLE_FIELD), 0, 0, 0);
        check.due("9 another one before that", x.compile(0, 0), 0);
    }

    private static void argumentsAndWhatTakesThem() {
        boolean[][] takes = {
            {true, false, false, false}, {false, true, true, true}, {false, false, true, true},
            {false, false, false, true},
        };
        for (int argument = 0; argument < 4; argument++) {
            for (int parameter = 0; parameter < 4; parameter++) {
                ApiCompare x = withUse(Check.CALL, 2, argument);
                x.method(0, 2, Check.sign(parameter, Check.LONG), 0);
                int due = takes[argument][parameter] ? 0 : NO_MEMBER;
                check.due("9 " + parameter + " takes " + argument, x.compile(0, 0), due);
            }
        }
    }

    private static void calls() {
        for (int flags = 0; flags < 16; flags++) {
            ApiCompare x = withUse(Check.CALL, 0, Check.INT);
            x.use(Check.CALL_STATIC, 0, 0, Check.INT);
            if (x.method(0, 0, Check.sign(Check.INT, Check.NONE), flags) != 0) {
                continue;
            }
            boolean hidden = (flags & HIDDEN) != 0;
            check.due("9 CALL, flags " + flags, x.compile(0, 0), hidden ? NO_MEMBER : 0);
            int due = hidden ? NO_MEMBER : (flags & STATIC) != 0 ? 0 : FIXED;
            check.due("9 CALL_STATIC, flags " + flags, x.compile(1, 0), due);
        }
        ApiCompare x = withUse(Check.CALL_STATIC, 0, Check.INT);
        x.method(0, 0, Check.sign(Check.INT, Check.NONE), 0);
        x.method(0, 0, Check.sign(Check.LONG, Check.NONE), STATIC);
        check.due("9 the first one is it, static or not", x.compile(0, 0), FIXED);
    }

    /** CALL_STATIC tells which one was found: they are static and not, by turns. */
    private static void methodIsFoundInItsOrder() {
        ApiCompare x = family();
        x.use(Check.CALL_STATIC, 5, 0, Check.NONE);
        check.due("9 no method at all", x.compile(0, 0), NO_MEMBER);
        int[] fromLastToFirst = {0, 1, 2, 3, 4, 5};
        int flags = 0;
        for (int type : fromLastToFirst) {
            flags = STATIC - flags;
            x.method(Check.methodSpot(0, type), 0, 0, flags);
            check.due("9 found in " + type, x.compile(0, 0), flags == STATIC ? 0 : FIXED);
        }
        ApiCompare y = new ApiCompare();
        y.type(0, 0, 0, 6, 0);
        y.type(0, 1, 0, 0, 0);
        y.type(0, 2, INTERFACE, 6, 0);
        y.type(0, 3, 0, 1, 1 << 2);
        y.use(Check.CALL_STATIC, 3, 0, Check.NONE);
        y.method(Check.methodSpot(0, 2), 0, 0, 0);
        check.due("9 the interface's", y.compile(0, 0), FIXED);
        y.method(Check.methodSpot(0, 0), 0, 0, STATIC);
        check.due("9 the super's super's before it", y.compile(0, 0), 0);
        y.method(Check.methodSpot(0, 1), 0, 0, 0);
        check.due("9 the super's before that", y.compile(0, 0), FIXED);
    }

    private static void hiddenMethodsArePassedOver() {
        ApiCompare x = family();
        x.use(Check.CALL, 5, 0, Check.INT);
        x.method(Check.methodSpot(0, 5), 0, Check.sign(Check.INT, Check.INT), HIDDEN);
        x.method(Check.methodSpot(0, 4), 0, Check.sign(Check.INT, Check.INT), 0);
        check.due("9 a hidden one hides the super's", x.compile(0, 0), NO_MEMBER);
        x.method(Check.methodSpot(0, 0), 0, Check.sign(Check.DOUBLE, Check.INT), 0);
        check.due("9 but not one of a wider parameter", x.compile(0, 0), 0);
        x.use(Check.OVERRIDE, 5, 0, Check.INT);
        check.due("9 OVERRIDE has its parameter alone", x.compile(1, 0), NO_MEMBER);
    }

    private static void newOnes() {
        for (int flags = 0; flags < 8; flags++) {
            ApiCompare x = new ApiCompare();
            x.use(Check.NEW, 0, 0, 0);
            if (x.type(0, 0, flags, 6, 0) == 0) {
                check.due("9 NEW, flags " + flags, x.compile(0, 0), (flags & 3) != 0 ? FIXED : 0);
            }
        }
    }

    private static void extending() {
        for (int flags = 0; flags < 8; flags++) {
            ApiCompare x = new ApiCompare();
            x.use(Check.EXTEND, 0, 0, 0);
            if (x.type(0, 0, flags, 6, 0) == 0) {
                check.due("9 EXTEND, flags " + flags, x.compile(0, 0), (flags & FINAL) != 0 ? FIXED : 0);
            }
        }
    }

    private static void overriding() {
        ApiCompare x = withUse(Check.OVERRIDE, 0, Check.INT);
        x.method(0, 0, Check.sign(Check.LONG, Check.NONE), 0);
        check.due("9 OVERRIDE of another parameter", x.compile(0, 0), NO_MEMBER);
        for (int flags = 0; flags < 16; flags++) {
            if (x.method(0, 0, Check.sign(Check.INT, Check.NONE), flags) != 0) {
                continue;
            }
            int due = (flags & HIDDEN) != 0 ? NO_MEMBER : (flags & (STATIC | FINAL)) != 0 ? FIXED : 0;
            check.due("9 OVERRIDE, flags " + flags, x.compile(0, 0), due);
        }
        x.cut(0, 0, 0, Check.INT);
        x.type(0, 0, FINAL, 6, 0);
        check.due("9 OVERRIDE in a final type comes first", x.compile(0, 0), FIXED);
    }

    private static void values() {
        ApiCompare x = withUse(Check.READ, 0, 0);
        x.use(Check.WRITE, 0, 0, 0);
        x.field(Check.fieldSpot(0, 0, Check.DOUBLE_FIELD), 0, Check.FIXED_VALUE, Integer.MIN_VALUE);
        check.due("12 the least DOUBLE", x.value(0, 0), -1073741824.0);
        check.due("12 the type is not in version 1", x.value(0, 1), 0.0);
        check.due("12 WRITE has none", x.value(1, 0), 0.0);
        check.due("12 use -1", x.value(-1, 0), 0.0);
        check.due("12 use 2 of two", x.value(2, 0), 0.0);
        check.due("12 version -1", x.value(0, -1), 0.0);
        check.due("12 version 2", x.value(0, 2), 0.0);
        x.copy();
        x.field(Check.fieldSpot(1, 0, Check.INT_FIELD), 0, Check.FIXED_VALUE, Integer.MAX_VALUE);
        check.due("12 the greatest INT, in version 1", x.value(0, 1), 2147483647.0);
        x.field(Check.fieldSpot(1, 0, Check.INT_FIELD), 0, Check.FIXED_VALUE | HIDDEN, 5);
        check.due("12 a hidden one", x.value(0, 1), 0.0);
        x.field(Check.fieldSpot(1, 0, Check.DOUBLE_FIELD), 0, Check.FIXED_VALUE, 0);
        check.due("12 nought", x.value(0, 1), 0.0);
        x.type(0, 0, HIDDEN, 6, 0);
        check.due("12 of a hidden type", x.value(0, 0), 0.0);
        x.type(0, 0, 0, 6, 0);
        x.use(Check.CALL, 0, 0, 0);
        x.method(0, 0, 0, 0);
        x.value(0, 0);
        check.due("12 a CALL has none", x.value(2, 0), 0.0);
    }
}
