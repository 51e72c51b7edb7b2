/** Promise 10: linking a use as it was compiled with the old version, with the new one. */
public final class LinkTest {
    private static final int FITS = ApiCompare.FITS;
    private static final int MOVED = ApiCompare.MOVED;
    private static final int STALE = ApiCompare.STALE;
    private static final int UNTIED = ApiCompare.UNTIED;
    private static final int LOST_TYPE = ApiCompare.LOST_TYPE;
    private static final int LOST_MEMBER = ApiCompare.LOST_MEMBER;
    private static final int ILLEGAL = ApiCompare.ILLEGAL;
    private static final int CHANGED = ApiCompare.CHANGED;
    private static final int HIDDEN = ApiCompare.HIDDEN;
    private static final int FINAL = ApiCompare.FINAL;
    private static final int STATIC = ApiCompare.STATIC;
    private static final int INTERFACE = ApiCompare.INTERFACE;
    private static final Check check = new Check();

    public static void main(String[] args) {
        numbersAndErrors();
        typeLostOrHidden();
        boundToValue();
        valueFoundElsewhere();
        fields();
        fieldsLookedForByKind();
        calls();
        callsOfAnotherKindOfType();
        callsLookedForByAnswer();
        callsThatMoved();
        newOnes();
        extending();
        overriding();
        check.end();
    }

    /** One use of the class 0, with a plain field and a plain method of each parameter, copied. */
    private static ApiCompare prepared(int kind) {
        ApiCompare x = Check.withClass();
        x.field(0, 0, 0, 0);
        for (int parameter = 0; parameter < 4; parameter++) {
            x.method(0, 0, Check.sign(parameter, Check.INT), kind == Check.CALL_STATIC ? STATIC : 0);
        }
        x.use(kind, 0, 0, Check.LONG);
        x.copy();
        return x;
    }

    private static void numbersAndErrors() {
        ApiCompare x = prepared(Check.NEW);
        check.due("10 use -1", x.link(-1), ApiCompare.REFUSED);
        check.due("10 use 1 of one", x.link(1), ApiCompare.REFUSED);
        check.due("10 fits", x.link(0), FITS);
        x.type(0, 0, ApiCompare.ABSTRACT, 6, 0);
        check.due("10 an error of version 0", x.link(0), ApiCompare.FIXED);
        x.drop(0, 0);
        check.due("10 another one", x.link(0), ApiCompare.NO_TYPE);
        ApiCompare y = prepared(Check.READ);
        y.cut(0, 0, 0, Check.FIELD);
        check.due("10 a third one", y.link(0), ApiCompare.NO_MEMBER);
    }

    private static void typeLostOrHidden() {
        for (int kind = 0; kind < 7; kind++) {
            ApiCompare x = prepared(kind);
            check.due("10 as it was, kind " + kind, x.link(0), FITS);
            x.type(1, 0, HIDDEN | FINAL, 6, 0);
            check.due("10 hidden comes first, kind " + kind, x.link(0), ILLEGAL);
            x.drop(1, 0);
            check.due("10 lost, kind " + kind, x.link(0), LOST_TYPE);
        }
    }

    private static void boundToValue() {
        ApiCompare x = Check.withClass();
        int spot = Check.fieldSpot(1, 0, Check.INT_FIELD);
        x.field(0, 0, Check.FIXED_VALUE, 4);
        x.use(Check.READ, 0, 0, 0);
        check.due("10 value, no type", x.link(0), STALE);
        x.copy();
        check.due("10 value, as it was", x.link(0), FITS);
        x.type(1, 0, HIDDEN, 6, 0);
        check.due("10 value, of a hidden type", x.link(0), FITS);
        x.field(spot, 0, Check.FIXED_VALUE | HIDDEN, 4);
        check.due("10 value, hidden", x.link(0), FITS);
        x.field(spot, 0, Check.FIXED_VALUE, 5);
        check.due("10 value, another one", x.link(0), STALE);
        x.field(spot, 0, Check.STATIC_FINAL, 4);
        check.due("10 value, no CONSTANT", x.link(0), STALE);
        x.field(spot + 1, 0, Check.FIXED_VALUE, 8);
        check.due("10 value, of another kind", x.link(0), STALE);
        x.field(spot + 1, 0, Check.FIXED_VALUE, 4);
        check.due("10 value, of another kind, the same v", x.link(0), STALE);
        x.cut(1, 0, 0, Check.FIELD);
        check.due("10 value, no field", x.link(0), STALE);
    }

    private static void valueFoundElsewhere() {
        ApiCompare x = Check.withClass();
        x.type(0, 1, 0, 0, 0);
        x.field(Check.fieldSpot(0, 1, Check.DOUBLE_FIELD), 0, Check.FIXED_VALUE, 4);
        x.use(Check.READ, 1, 0, 0);
        x.copy();
        x.cut(1, 1, 0, Check.FIELD);
        x.field(Check.fieldSpot(1, 0, Check.DOUBLE_FIELD), 0, Check.FIXED_VALUE, 4);
        check.due("10 value, now in the super", x.link(0), FITS);
        x.field(Check.fieldSpot(1, 1, Check.INT_FIELD), 0, 0, 0);
        check.due("10 value, looked for by name alone", x.link(0), STALE);
    }

    private static void fields() {
        for (int kind = Check.READ; kind <= Check.WRITE; kind++) {
            for (int old = 0; old <= STATIC; old++) {
                for (int flags = 0; flags < 32; flags++) {
                    ApiCompare x = prepared(kind);
                    x.field(0, 0, old, 0);
                    if (x.field(12, 0, flags, 0) != 0) {
                        continue;
                    }
                    boolean barred = (flags & HIDDEN) != 0 || kind == Check.WRITE && (flags & FINAL) != 0;
                    int due = barred ? ILLEGAL : (flags & STATIC) != old ? CHANGED : FITS;
                    check.due("10 field " + kind + ", flags " + old + " to " + flags, x.link(0), due);
                }
            }
        }
    }

    private static void fieldsLookedForByKind() {
        ApiCompare x = prepared(Check.READ);
        x.field(Check.fieldSpot(1, 0, Check.DOUBLE_FIELD), 0, 0, 0);
        check.due("10 field, of another kind", x.link(0), LOST_MEMBER);
        x.cut(1, 0, 0, Check.FIELD);
        check.due("10 field, lost", x.link(0), LOST_MEMBER);
        ApiCompare y = Check.withClass();
        y.type(0, 1, INTERFACE, 6, 0);
        y.type(0, 2, INTERFACE, 6, 0);
        y.type(0, 3, 0, 0, 1 << 1 | 1 << 2);
        y.field(Check.fieldSpot(0, 3, Check.INT_FIELD), 0, 0, 0);
        y.use(Check.READ, 3, 0, 0);
        y.copy();
        y.field(Check.fieldSpot(1, 3, Check.DOUBLE_FIELD), 0, HIDDEN, 0);
        y.field(Check.fieldSpot(1, 1, Check.DOUBLE_FIELD), 0, STATIC, 0);
        y.field(Check.fieldSpot(1, 0, Check.INT_FIELD), 0, 0, 0);
        check.due("10 field, others of another kind are passed over", y.link(0), FITS);
        y.field(Check.fieldSpot(1, 2, Check.INT_FIELD), 0, STATIC, 0);
        check.due("10 field, the interface's before the super's", y.link(0), CHANGED);
        y.field(Check.fieldSpot(1, 1, Check.INT_FIELD), 0, HIDDEN, 0);
        check.due("10 field, the lesser interface's before it", y.link(0), ILLEGAL);
    }

    private static void calls() {
        for (int kind = Check.CALL; kind <= Check.CALL_STATIC; kind++) {
            for (int old = kind == Check.CALL ? 0 : STATIC; old <= STATIC; old++) {
                for (int flags = 0; flags < 16; flags++) {
                    ApiCompare x = prepared(kind);
                    x.method(0, 0, Check.sign(Check.LONG, Check.INT), old);
                    if (x.method(6, 0, Check.sign(Check.LONG, Check.INT), flags) != 0) {
                        continue;
                    }
                    int due = (flags & HIDDEN) != 0 ? ILLEGAL : (flags & STATIC) != old ? CHANGED : FITS;
                    check.due("10 call " + kind + ", flags " + old + " to " + flags, x.link(0), due);
                }
            }
        }
    }

    private static void callsOfAnotherKindOfType() {
        ApiCompare x = prepared(Check.CALL);
        x.type(1, 0, INTERFACE, 6, 0);
        check.due("10 call, an interface now", x.link(0), CHANGED);
        x.cut(1, 0, 0, Check.LONG);
        check.due("10 call, that comes before the method", x.link(0), CHANGED);
        ApiCompare y = prepared(Check.CALL);
        y.type(0, 0, INTERFACE, 6, 0);
        check.due("10 call, a class now", y.link(0), CHANGED);
        y.copy();
        check.due("10 call, an interface in both", y.link(0), FITS);
    }

    private static void callsLookedForByAnswer() {
        ApiCompare x = prepared(Check.CALL);
        x.method(6, 0, Check.sign(Check.LONG, Check.LONG), 0);
        check.due("10 call, another answer", x.link(0), LOST_MEMBER);
        x.cut(1, 0, 0, Check.LONG);
        check.due("10 call, a wider parameter does not count", x.link(0), LOST_MEMBER);
        ApiCompare y = Check.withClass();
        y.type(0, 1, INTERFACE, 6, 0);
        y.type(0, 2, 0, 0, 1 << 1);
        y.method(Check.methodSpot(0, 1), 1, Check.sign(Check.NONE, Check.DOUBLE), 0);
        y.use(Check.CALL, 2, 1, Check.NONE);
        y.copy();
        y.method(Check.methodSpot(1, 2), 1, Check.sign(Check.NONE, Check.INT), HIDDEN);
        y.method(Check.methodSpot(1, 0), 1, Check.sign(Check.NONE, Check.LONG), STATIC);
        check.due("10 call, others of another answer are passed over", y.link(0), FITS);
        y.method(Check.methodSpot(1, 0), 1, Check.sign(Check.NONE, Check.DOUBLE), STATIC);
        check.due("10 call, the super's before the interface's", y.link(0), CHANGED);
    }

    private static void callsThatMoved() {
        ApiCompare x = Check.withClass();
        x.type(0, 1, INTERFACE, 6, 0);
        x.type(0, 2, INTERFACE, 6, 1 << 1);
        x.type(0, 3, 0, 0, 1 << 2);
        x.type(0, 4, 0, 3, 0);
        x.method(Check.methodSpot(0, 1), 0, 0, 0);
        x.use(Check.CALL, 4, 0, Check.NONE);
        x.copy();
        check.due("10 call, found in 1", x.link(0), FITS);
        int[] from = {2, 0, 3, 4};
        for (int type : from) {
            x.method(Check.methodSpot(1, type), 0, 0, ApiCompare.ABSTRACT);
            check.due("10 call, moved to " + type, x.link(0), MOVED);
        }
        x.method(Check.methodSpot(0, 4), 0, 0, 0);
        check.due("10 call, found in 4 by both", x.link(0), FITS);
    }

    private static void newOnes() {
        for (int flags = 0; flags < 8; flags++) {
            ApiCompare x = prepared(Check.NEW);
            if (x.type(1, 0, flags, 6, 0) == 0) {
                check.due("10 NEW, flags " + flags, x.link(0), (flags & 3) != 0 ? CHANGED : FITS);
            }
        }
    }

    private static void extending() {
        for (int old = 0; old <= INTERFACE; old++) {
            for (int flags = 0; flags < 8; flags++) {
                ApiCompare x = prepared(Check.EXTEND);
                x.use(Check.OVERRIDE, 0, 0, Check.INT);
                x.type(0, 0, old, 6, 0);
                if (x.type(1, 0, flags, 6, 0) != 0) {
                    continue;
                }
                int due = (flags & FINAL) != 0 || (flags & INTERFACE) != old ? CHANGED : FITS;
                check.due("10 EXTEND, flags " + old + " to " + flags, x.link(0), due);
                check.due("10 OVERRIDE, flags " + old + " to " + flags, x.link(1), due);
            }
        }
    }

    private static void overriding() {
        for (int flags = 0; flags < 16; flags++) {
            ApiCompare x = prepared(Check.OVERRIDE);
            if (x.method(6, 0, Check.sign(Check.LONG, Check.INT), flags) != 0) {
                continue;
            }
            boolean hidden = (flags & HIDDEN) != 0;
            boolean barred = !hidden && (flags & (STATIC | FINAL)) != 0;
            check.due("10 OVERRIDE, the same answer, " + flags, x.link(0), barred ? CHANGED : hidden ? UNTIED : FITS);
            x.method(6, 0, Check.sign(Check.LONG, Check.NONE), flags);
            check.due("10 OVERRIDE, another answer, " + flags, x.link(0), barred ? CHANGED : UNTIED);
            x.cut(1, 0, 0, Check.LONG);
            check.due("10 OVERRIDE, no method", x.link(0), UNTIED);
        }
        ApiCompare y = Check.withClass();
        y.type(0, 1, 0, 0, 0);
        y.method(Check.methodSpot(0, 0), 0, 0, 0);
        y.use(Check.OVERRIDE, 1, 0, Check.NONE);
        y.copy();
        y.method(Check.methodSpot(1, 1), 0, 0, 0);
        check.due("10 OVERRIDE, found elsewhere", y.link(0), FITS);
        y.method(Check.methodSpot(1, 1), 0, Check.sign(Check.NONE, Check.INT), 0);
        check.due("10 OVERRIDE, not looked for by answer", y.link(0), UNTIED);
    }
}
