/** The sentences on compiling and linking that name an edge, one test for each; the sentence stands above it. */
public final class UseEdgeTest {
    private static final int NO_TYPE = ApiCompare.NO_TYPE;
    private static final int NO_MEMBER = ApiCompare.NO_MEMBER;
    private static final int FIXED = ApiCompare.FIXED;
    private static final int FITS = ApiCompare.FITS;
    private static final int STALE = ApiCompare.STALE;
    private static final int CHANGED = ApiCompare.CHANGED;
    private static final int ILLEGAL = ApiCompare.ILLEGAL;
    private static final int LOST_TYPE = ApiCompare.LOST_TYPE;
    private static final int LOST_MEMBER = ApiCompare.LOST_MEMBER;
    private static final int UNTIED = ApiCompare.UNTIED;
    private static final int INTERFACE = ApiCompare.INTERFACE;
    private static final int STATIC = ApiCompare.STATIC;
    private static final int ABSTRACT = ApiCompare.ABSTRACT;
    private static final int FINAL = ApiCompare.FINAL;
    private static final int HIDDEN = ApiCompare.HIDDEN;
    private static final int NO_SUPER = Check.NO_SUPER;
    private static final Check check = new Check();

    public static void main(String[] args) {
        compileWithoutItsType();
        compileWithoutItsField();
        compileWriteOfAFinalField();
        compileTakesTheFirstThatIsNotHidden();
        compileWithoutItsMethod();
        compileStaticCallOfOneThatIsNot();
        compileNewOfAbstract();
        compileExtendOfFinal();
        compileOverrideInItsOrder();
        linkOfAValueNeverBreaks();
        linkOfAValueAsksKindAndValue();
        linkWithoutItsType();
        linkOfFieldInItsOrder();
        linkOfCallInItsOrder();
        linkOfCallThatMoved();
        linkOfNew();
        linkOfExtend();
        linkOfOverrideInItsOrder();
        check.end();
    }

    /** The class 0 in both versions, and one use of its name 0 (a LONG, if of a method). */
    private static ApiCompare withUse(int kind) {
        ApiCompare x = Check.withClass();
        x.copy();
        x.use(kind, 0, 0, Check.LONG);
        return x;
    }

    private static void field(ApiCompare x, int version, int flags) {
        x.field(Check.fieldSpot(version, 0, Check.INT_FIELD), 0, flags, 3);
    }

    private static void method(ApiCompare x, int version, int answer, int flags) {
        x.method(Check.methodSpot(version, 0), 0, Check.sign(Check.LONG, answer), flags);
    }

    /** "The type is not there, or HIDDEN: NO_TYPE." It comes before all that can be wrong with the use. */
    private static void compileWithoutItsType() {
        for (int kind = 0; kind < 7; kind++) {
            ApiCompare x = withUse(kind);
            x.type(0, 0, HIDDEN | ABSTRACT | FINAL, NO_SUPER, 0);
            check.due("HIDDEN, kind " + kind, x.compile(0, 0), NO_TYPE);
            x.type(0, 0, ABSTRACT | FINAL, NO_SUPER, 0);
            check.due("not HIDDEN, kind " + kind, x.compile(0, 0), kind < Check.NEW ? NO_MEMBER : FIXED);
            x.drop(0, 0);
            check.due("not there, kind " + kind, x.compile(0, 0), NO_TYPE);
        }
    }

    /** "FIND it by name; nothing, or it is HIDDEN: NO_MEMBER." */
    private static void compileWithoutItsField() {
        for (int kind = Check.READ; kind <= Check.WRITE; kind++) {
            ApiCompare x = withUse(kind);
            x.field(0, 1, 0, 0);
            x.method(0, 0, 0, 0);
            check.due("nothing of the name, kind " + kind, x.compile(0, 0), NO_MEMBER);
            field(x, 0, HIDDEN);
            check.due("HIDDEN, kind " + kind, x.compile(0, 0), NO_MEMBER);
            field(x, 0, HIDDEN | FINAL);
            check.due("HIDDEN comes before final, kind " + kind, x.compile(0, 0), NO_MEMBER);
            field(x, 0, HIDDEN | Check.FIXED_VALUE);
            check.due("HIDDEN comes before CONSTANT, kind " + kind, x.compile(0, 0), NO_MEMBER);
            check.due("and there is no value then", x.value(0, 0), 0.0);
        }
    }

    /** "WRITE of a final one: FIXED." */
    private static void compileWriteOfAFinalField() {
        int[] flags = {FINAL, Check.STATIC_FINAL, Check.FIXED_VALUE};
        for (int each : flags) {
            ApiCompare x = withUse(Check.WRITE);
            field(x, 0, each);
            check.due("WRITE, flags " + each, x.compile(0, 0), FIXED);
            check.due("WRITE is bound to no value", x.value(0, 0), 0.0);
            x.use(Check.READ, 0, 0, 0);
            check.due("READ, flags " + each, x.compile(1, 0), 0);
        }
    }

    /** "for each parameter that takes it .. in this order: .. the first one found that is not HIDDEN is it". */
    private static void compileTakesTheFirstThatIsNotHidden() {
        for (int argument = 0; argument < 4; argument++) {
            for (int shown = 0; shown < 4; shown++) {
                ApiCompare x = Check.withClass();
                for (int parameter = 0; parameter < 4; parameter++) {
                    x.method(0, 0, Check.sign(parameter, parameter), parameter < shown ? HIDDEN : 0);
                }
                x.use(Check.CALL, 0, 0, argument);
                int taken = Math.max(argument, shown);
                boolean takesNone = argument == Check.NONE && shown > Check.NONE;
                check.due(argument + " taken from " + shown, x.compile(0, 0), takesNone ? NO_MEMBER : 0);
                x.copy();
                x.method(6, 0, Check.sign(taken, (taken + 1) % 4), 0);
                check.due(argument + " was taken by " + taken, x.link(0), takesNone ? NO_MEMBER : LOST_MEMBER);
            }
        }
    }

    /** "none: NO_MEMBER." */
    private static void compileWithoutItsMethod() {
        for (int kind = Check.CALL; kind <= Check.CALL_STATIC; kind++) {
            ApiCompare x = withUse(kind);
            x.field(0, 0, 0, 0);
            check.due("none at all, kind " + kind, x.compile(0, 0), NO_MEMBER);
            x.method(0, 0, Check.sign(Check.NONE, Check.LONG), STATIC);
            x.method(0, 0, Check.sign(Check.INT, Check.LONG), STATIC);
            check.due("none that takes a LONG, kind " + kind, x.compile(0, 0), NO_MEMBER);
            for (int parameter = 0; parameter < 4; parameter++) {
                x.method(0, 1, Check.sign(parameter, Check.LONG), STATIC);
                x.method(0, 2, Check.sign(parameter, Check.LONG), STATIC);
            }
            check.due("none of the name, kind " + kind, x.compile(0, 0), NO_MEMBER);
            x.method(0, 0, Check.sign(Check.LONG, Check.LONG), STATIC | HIDDEN);
            x.method(0, 0, Check.sign(Check.DOUBLE, Check.LONG), STATIC | HIDDEN);
            check.due("all HIDDEN, kind " + kind, x.compile(0, 0), NO_MEMBER);
        }
    }

    /** "CALL_STATIC of one that is not static: FIXED." CALL takes both. */
    private static void compileStaticCallOfOneThatIsNot() {
        int[] flags = {0, ABSTRACT, FINAL};
        for (int each : flags) {
            ApiCompare x = withUse(Check.CALL_STATIC);
            method(x, 0, Check.INT, each);
            x.method(0, 0, Check.sign(Check.DOUBLE, Check.INT), STATIC);
            check.due("the first one is not static, flags " + each, x.compile(0, 0), FIXED);
            method(x, 0, Check.INT, HIDDEN);
            check.due("it is HIDDEN, the next one is static", x.compile(0, 0), 0);
        }
        ApiCompare y = withUse(Check.CALL);
        method(y, 0, Check.INT, STATIC);
        check.due("CALL of a static one", y.compile(0, 0), 0);
    }

    /** "NEW 4 of the type: it is abstract or an interface: FIXED." */
    private static void compileNewOfAbstract() {
        int[] flags = {0, FINAL, ABSTRACT, ABSTRACT | FINAL, INTERFACE, INTERFACE | ABSTRACT};
        int[] due = {0, 0, FIXED, FIXED, FIXED, FIXED};
        for (int i = 0; i < flags.length; i++) {
            ApiCompare x = withUse(Check.NEW);
            x.type(0, 0, flags[i], NO_SUPER, 0);
            check.due("NEW, flags " + flags[i], x.compile(0, 0), due[i]);
        }
    }

    /** "EXTEND 5: a subtype of it ..: it is final: FIXED." */
    private static void compileExtendOfFinal() {
        int[] flags = {0, FINAL, ABSTRACT, ABSTRACT | FINAL, INTERFACE, INTERFACE | ABSTRACT};
        int[] due = {0, FIXED, 0, FIXED, 0, 0};
        for (int i = 0; i < flags.length; i++) {
            ApiCompare x = withUse(Check.EXTEND);
            x.type(0, 0, flags[i], NO_SUPER, 0);
            check.due("EXTEND, flags " + flags[i], x.compile(0, 0), due[i]);
        }
    }

    /** "the type is final: FIXED. .. nothing, or it is HIDDEN: NO_MEMBER; it is static or final: FIXED." */
    private static void compileOverrideInItsOrder() {
        ApiCompare x = withUse(Check.OVERRIDE);
        x.method(0, 0, Check.sign(Check.DOUBLE, Check.INT), 0);
        x.method(0, 0, Check.sign(Check.INT, Check.INT), 0);
        check.due("none of the parameter", x.compile(0, 0), NO_MEMBER);
        method(x, 0, Check.INT, HIDDEN);
        check.due("HIDDEN", x.compile(0, 0), NO_MEMBER);
        method(x, 0, Check.INT, HIDDEN | FINAL | STATIC);
        check.due("HIDDEN comes before final", x.compile(0, 0), NO_MEMBER);
        x.type(0, 0, FINAL, NO_SUPER, 0);
        check.due("a final type comes before that", x.compile(0, 0), FIXED);
        x.type(0, 0, 0, NO_SUPER, 0);
        method(x, 0, Check.INT, FINAL);
        check.due("final", x.compile(0, 0), FIXED);
        method(x, 0, Check.INT, STATIC);
        check.due("static", x.compile(0, 0), FIXED);
        method(x, 0, Check.INT, ABSTRACT);
        check.due("abstract", x.compile(0, 0), 0);
    }

    /** "bound to a value: the type is not there, or FIND the field by name is nothing ..: STALE", HIDDEN or not. */
    private static void linkOfAValueNeverBreaks() {
        ApiCompare x = withUse(Check.READ);
        field(x, 0, Check.FIXED_VALUE);
        check.due("no such field", x.link(0), STALE);
        field(x, 1, Check.FIXED_VALUE);
        check.due("the same", x.link(0), FITS);
        x.type(1, 0, HIDDEN, NO_SUPER, 0);
        check.due("a HIDDEN type", x.link(0), FITS);
        check.due("though it cannot be compiled anew", x.recompile(0), NO_TYPE);
        field(x, 1, Check.FIXED_VALUE | HIDDEN);
        check.due("a HIDDEN field", x.link(0), FITS);
        x.type(1, 0, INTERFACE, NO_SUPER, 0);
        check.due("an interface now", x.link(0), FITS);
        x.drop(1, 0);
        check.due("no type", x.link(0), STALE);
        check.due("none of these breaks", x.breaking(), 0);
    }

    /** "or no CONSTANT of the same kind and value: STALE; else FITS." */
    private static void linkOfAValueAsksKindAndValue() {
        for (int kind = 0; kind < 2; kind++) {
            ApiCompare x = withUse(Check.READ);
            x.field(Check.fieldSpot(0, 0, kind), 0, Check.FIXED_VALUE, 0);
            x.field(Check.fieldSpot(1, 0, kind), 0, Check.FIXED_VALUE, 0);
            check.due("nought, as before, kind " + kind, x.link(0), FITS);
            x.field(Check.fieldSpot(1, 0, 1 - kind), 0, Check.FIXED_VALUE, 0);
            check.due("nought of the other kind", x.link(0), STALE);
            check.due("nought of the other kind, anew", x.recompile(0), 1);
            x.field(Check.fieldSpot(1, 0, kind), 0, Check.FIXED_VALUE, Integer.MIN_VALUE);
            check.due("another value", x.link(0), STALE);
            x.field(Check.fieldSpot(0, 0, kind), 0, Check.FIXED_VALUE, Integer.MIN_VALUE);
            check.due("the least value in both", x.link(0), FITS);
            x.field(Check.fieldSpot(1, 0, kind), 0, Check.STATIC_FINAL, Integer.MIN_VALUE);
            check.due("no CONSTANT", x.link(0), STALE);
        }
    }

    /** "the type is not there: LOST_TYPE; it is HIDDEN: ILLEGAL." These come before all else. */
    private static void linkWithoutItsType() {
        for (int kind = 0; kind < 7; kind++) {
            ApiCompare x = withUse(kind);
            field(x, 0, 0);
            method(x, 0, Check.INT, kind == Check.CALL_STATIC ? STATIC : 0);
            x.type(1, 0, HIDDEN | INTERFACE, NO_SUPER, 0);
            check.due("HIDDEN, kind " + kind, x.link(0), ILLEGAL);
            x.drop(1, 0);
            check.due("not there, kind " + kind, x.link(0), LOST_TYPE);
            x.type(0, 0, HIDDEN, NO_SUPER, 0);
            check.due("the error of the old version, kind " + kind, x.link(0), NO_TYPE);
        }
    }

    /** "nothing: LOST_MEMBER; HIDDEN, or a WRITE of a final one: ILLEGAL; static and bound otherwise ..: CHANGED." */
    private static void linkOfFieldInItsOrder() {
        for (int kind = Check.READ; kind <= Check.WRITE; kind++) {
            int ofFinal = kind == Check.WRITE ? ILLEGAL : CHANGED;
            ApiCompare x = withUse(kind);
            field(x, 0, 0);
            check.due("nothing, kind " + kind, x.link(0), LOST_MEMBER);
            field(x, 1, HIDDEN | STATIC);
            check.due("HIDDEN comes before static, kind " + kind, x.link(0), ILLEGAL);
            field(x, 1, STATIC | FINAL);
            check.due("final and static, kind " + kind, x.link(0), ofFinal);
            field(x, 1, Check.FIXED_VALUE);
            check.due("CONSTANT now, kind " + kind, x.link(0), ofFinal);
            field(x, 1, STATIC);
            check.due("static now, kind " + kind, x.link(0), CHANGED);
            field(x, 0, STATIC);
            check.due("static in both, kind " + kind, x.link(0), FITS);
            field(x, 1, 0);
            check.due("not static now, kind " + kind, x.link(0), CHANGED);
        }
    }

    /** "an interface now and was none ..: CHANGED. .. nothing: LOST_MEMBER; HIDDEN: ILLEGAL; static ..: CHANGED". */
    private static void linkOfCallInItsOrder() {
        ApiCompare x = withUse(Check.CALL);
        method(x, 0, Check.INT, 0);
        x.type(1, 0, INTERFACE, NO_SUPER, 0);
        check.due("an interface now, without the method", x.link(0), CHANGED);
        x.type(1, 0, 0, NO_SUPER, 0);
        check.due("nothing", x.link(0), LOST_MEMBER);
        x.method(6, 0, Check.sign(Check.DOUBLE, Check.INT), 0);
        check.due("only one that a new compiling would take", x.link(0), LOST_MEMBER);
        method(x, 1, Check.INT, HIDDEN | STATIC);
        check.due("HIDDEN comes before static", x.link(0), ILLEGAL);
        method(x, 1, Check.INT, STATIC);
        check.due("static now", x.link(0), CHANGED);
        method(x, 0, Check.INT, STATIC);
        check.due("static in both", x.link(0), FITS);
        method(x, 1, Check.INT, 0);
        check.due("not static now", x.link(0), CHANGED);
        x.type(0, 0, INTERFACE, NO_SUPER, 0);
        x.type(1, 0, INTERFACE, NO_SUPER, 0);
        method(x, 1, Check.INT, STATIC);
        check.due("an interface in both", x.link(0), FITS);
    }

    /** "static ..: CHANGED; it is in another type than where the method was found ..: MOVED; else FITS." */
    private static void linkOfCallThatMoved() {
        ApiCompare x = Check.withClass();
        x.type(0, 1, 0, 0, 0);
        x.method(Check.methodSpot(0, 0), 0, 0, 0);
        x.use(Check.CALL, 1, 0, Check.NONE);
        x.copy();
        check.due("as it was", x.link(0), FITS);
        x.method(Check.methodSpot(1, 1), 0, 0, STATIC);
        check.due("static comes before moved", x.link(0), CHANGED);
        x.method(Check.methodSpot(1, 1), 0, 0, 0);
        check.due("moved down", x.link(0), ApiCompare.MOVED);
        x.method(Check.methodSpot(0, 1), 0, 0, 0);
        check.due("in the same place of both", x.link(0), FITS);
        x.cut(1, 1, 0, Check.NONE);
        check.due("moved up", x.link(0), ApiCompare.MOVED);
        check.due("it does not break", x.breaking(), 0);
    }

    /** "NEW: abstract or an interface: CHANGED." */
    private static void linkOfNew() {
        int[] flags = {0, FINAL, ABSTRACT, ABSTRACT | FINAL, INTERFACE, INTERFACE | ABSTRACT};
        int[] due = {FITS, FITS, CHANGED, CHANGED, CHANGED, CHANGED};
        for (int i = 0; i < flags.length; i++) {
            ApiCompare x = withUse(Check.NEW);
            x.type(1, 0, flags[i], NO_SUPER, 0);
            check.due("NEW, flags " + flags[i], x.link(0), due[i]);
        }
    }

    /** "EXTEND: final, or an interface now and none before, or the other way round: CHANGED." */
    private static void linkOfExtend() {
        int[] flags = {0, FINAL, ABSTRACT, INTERFACE, INTERFACE | ABSTRACT};
        int[] ofClass = {FITS, CHANGED, FITS, CHANGED, CHANGED};
        int[] ofInterface = {CHANGED, CHANGED, CHANGED, FITS, FITS};
        for (int i = 0; i < flags.length; i++) {
            ApiCompare x = withUse(Check.EXTEND);
            x.type(1, 0, flags[i], NO_SUPER, 0);
            check.due("EXTEND of a class, flags " + flags[i], x.link(0), ofClass[i]);
            x.type(0, 0, INTERFACE, NO_SUPER, 0);
            check.due("EXTEND of an interface, flags " + flags[i], x.link(0), ofInterface[i]);
        }
    }

    /** "as EXTEND; then .. not HIDDEN, and final or static: CHANGED; .. with the same answer: FITS; else UNTIED." */
    private static void linkOfOverrideInItsOrder() {
        ApiCompare x = withUse(Check.OVERRIDE);
        method(x, 0, Check.INT, 0);
        check.due("no method", x.link(0), UNTIED);
        x.type(1, 0, FINAL, NO_SUPER, 0);
        check.due("a final type comes before that", x.link(0), CHANGED);
        x.type(1, 0, INTERFACE, NO_SUPER, 0);
        check.due("so does an interface", x.link(0), CHANGED);
        x.type(1, 0, 0, NO_SUPER, 0);
        method(x, 1, Check.INT, HIDDEN | FINAL);
        check.due("HIDDEN and final", x.link(0), UNTIED);
        method(x, 1, Check.INT, HIDDEN | STATIC);
        check.due("HIDDEN and static", x.link(0), UNTIED);
        method(x, 1, Check.LONG, FINAL);
        check.due("final, with another answer", x.link(0), CHANGED);
        method(x, 1, Check.LONG, 0);
        check.due("another answer", x.link(0), UNTIED);
        check.due("UNTIED does not break", x.breaking(), 0);
        method(x, 1, Check.INT, ABSTRACT);
        check.due("the same answer", x.link(0), FITS);
    }
}
