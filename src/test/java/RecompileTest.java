/** Promise 11: compiling a use against both versions, and whether the bindings are the same. */
public final class RecompileTest {
    private static final int SAME = 0;
    private static final int OTHER = 1;
    private static final int STATIC = ApiCompare.STATIC;
    private static final int INTERFACE = ApiCompare.INTERFACE;
    private static final Check check = new Check();

    public static void main(String[] args) {
        numbersAndErrors();
        fields();
        values();
        calls();
        types();
        overriding();
        check.end();
    }

    private static ApiCompare prepared(int kind) {
        ApiCompare x = Check.withClass();
        x.field(0, 0, 0, 0);
        x.method(0, 0, Check.sign(Check.LONG, Check.INT), kind == Check.CALL_STATIC ? STATIC : 0);
        x.use(kind, 0, 0, Check.LONG);
        x.copy();
        return x;
    }

    private static void numbersAndErrors() {
        for (int kind = 0; kind < 7; kind++) {
            ApiCompare x = prepared(kind);
            check.due("11 use -1", x.recompile(-1), ApiCompare.REFUSED);
            check.due("11 use 1 of one", x.recompile(1), ApiCompare.REFUSED);
            check.due("11 as it was, kind " + kind, x.recompile(0), SAME);
            x.drop(1, 0);
            check.due("11 error of version 1, kind " + kind, x.recompile(0), ApiCompare.NO_TYPE);
            x.type(0, 0, ApiCompare.FINAL | ApiCompare.ABSTRACT, 6, 0);
            x.cut(0, 0, 0, Check.FIELD);
            x.cut(0, 0, 0, Check.LONG);
            int due = kind < Check.NEW ? ApiCompare.NO_MEMBER : ApiCompare.FIXED;
            check.due("11 the error of version 0 comes first, kind " + kind, x.recompile(0), due);
        }
    }

    private static void fields() {
        ApiCompare x = prepared(Check.READ);
        int spot = Check.fieldSpot(1, 0, Check.INT_FIELD);
        x.field(spot, 0, ApiCompare.FINAL, 0);
        check.due("11 READ, final now", x.recompile(0), SAME);
        x.field(spot, 0, STATIC, 0);
        check.due("11 READ, static now", x.recompile(0), OTHER);
        x.field(spot + 1, 0, 0, 0);
        check.due("11 READ, DOUBLE now", x.recompile(0), OTHER);
        x.field(spot, 0, Check.FIXED_VALUE, 0);
        check.due("11 READ, bound to a value now", x.recompile(0), OTHER);
        x.field(0, 0, Check.STATIC_FINAL, 0);
        check.due("11 READ, static, bound to a value now", x.recompile(0), OTHER);
        ApiCompare y = prepared(Check.WRITE);
        y.type(1, 0, INTERFACE, 6, 0);
        check.due("11 WRITE, the type's kind is no part", y.recompile(0), SAME);
        y.field(spot, 0, ApiCompare.FINAL, 0);
        check.due("11 WRITE, final now", y.recompile(0), ApiCompare.FIXED);
    }

    private static void values() {
        ApiCompare x = prepared(Check.READ);
        int spot = Check.fieldSpot(1, 0, Check.INT_FIELD);
        x.field(0, 0, Check.FIXED_VALUE, 4);
        x.field(spot, 0, Check.FIXED_VALUE, 4);
        check.due("11 the same value", x.recompile(0), SAME);
        x.field(spot, 0, Check.FIXED_VALUE, 5);
        check.due("11 another value", x.recompile(0), OTHER);
        x.field(spot + 1, 0, Check.FIXED_VALUE, 8);
        check.due("11 the same value of another kind", x.recompile(0), OTHER);
        x.field(spot + 1, 0, Check.FIXED_VALUE, 4);
        check.due("11 the same v of another kind", x.recompile(0), OTHER);
        x.field(spot, 0, Check.STATIC_FINAL, 4);
        check.due("11 no value now", x.recompile(0), OTHER);
        x.type(0, 1, 0, 0, 0);
        x.type(1, 1, 0, 0, 0);
        x.use(Check.READ, 1, 0, 0);
        x.cut(1, 0, 0, Check.FIELD);
        x.field(Check.fieldSpot(1, 1, Check.INT_FIELD), 0, Check.FIXED_VALUE, 4);
        check.due("11 the same value found elsewhere", x.recompile(1), SAME);
    }

    private static void calls() {
        ApiCompare x = prepared(Check.CALL);
        x.method(6, 0, Check.sign(Check.LONG, Check.INT), ApiCompare.FINAL);
        check.due("11 CALL, final now", x.recompile(0), SAME);
        x.method(6, 0, Check.sign(Check.LONG, Check.INT), STATIC);
        check.due("11 CALL, static now", x.recompile(0), OTHER);
        x.method(6, 0, Check.sign(Check.LONG, Check.NONE), 0);
        check.due("11 CALL, another answer", x.recompile(0), OTHER);
        x.cut(1, 0, 0, Check.LONG);
        check.due("11 CALL, no method now", x.recompile(0), ApiCompare.NO_MEMBER);
        x.method(6, 0, Check.sign(Check.DOUBLE, Check.INT), 0);
        check.due("11 CALL, a wider parameter", x.recompile(0), OTHER);
        x.copy();
        x.type(1, 0, INTERFACE, 6, 0);
        check.due("11 CALL, an interface now", x.recompile(0), OTHER);
        ApiCompare y = prepared(Check.CALL_STATIC);
        y.type(0, 1, 0, 0, 0);
        y.use(Check.CALL_STATIC, 1, 0, Check.INT);
        y.copy();
        y.method(7, 0, Check.sign(Check.LONG, Check.INT), STATIC);
        check.due("11 CALL_STATIC, where it is found is no part", y.recompile(1), SAME);
        check.due("11 CALL_STATIC, though it has moved", y.link(1), ApiCompare.MOVED);
        y.method(7, 0, Check.sign(Check.LONG, Check.INT), 0);
        check.due("11 CALL_STATIC, not static now", y.recompile(1), ApiCompare.FIXED);
    }

    private static void types() {
        ApiCompare x = prepared(Check.NEW);
        x.type(1, 0, ApiCompare.FINAL, 6, 0);
        check.due("11 NEW, final now", x.recompile(0), SAME);
        x.type(1, 0, ApiCompare.ABSTRACT, 6, 0);
        check.due("11 NEW, abstract now", x.recompile(0), ApiCompare.FIXED);
        ApiCompare y = prepared(Check.EXTEND);
        y.type(1, 0, ApiCompare.ABSTRACT, 6, 0);
        check.due("11 EXTEND, abstract now", y.recompile(0), SAME);
        y.type(1, 0, INTERFACE, 6, 0);
        check.due("11 EXTEND, an interface now", y.recompile(0), OTHER);
        y.type(1, 0, ApiCompare.FINAL, 6, 0);
        check.due("11 EXTEND, final now", y.recompile(0), ApiCompare.FIXED);
    }

    private static void overriding() {
        ApiCompare x = prepared(Check.OVERRIDE);
        x.type(1, 0, INTERFACE, 6, 0);
        check.due("11 OVERRIDE, the type's kind is no part", x.recompile(0), SAME);
        x.method(6, 0, Check.sign(Check.LONG, Check.INT), ApiCompare.ABSTRACT);
        check.due("11 OVERRIDE, abstract now", x.recompile(0), SAME);
        x.method(6, 0, Check.sign(Check.LONG, Check.DOUBLE), 0);
        check.due("11 OVERRIDE, another answer", x.recompile(0), OTHER);
        x.method(6, 0, Check.sign(Check.LONG, Check.INT), STATIC);
        check.due("11 OVERRIDE, static now", x.recompile(0), ApiCompare.FIXED);
        x.method(6, 0, Check.sign(Check.LONG, Check.INT), ApiCompare.HIDDEN);
        check.due("11 OVERRIDE, hidden now", x.recompile(0), ApiCompare.NO_MEMBER);
    }
}
