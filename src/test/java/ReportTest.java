/** Promises 13 to 17: what is told of all uses, of the differences and of subtypes. */
public final class ReportTest {
    private static final int REFUSED = ApiCompare.REFUSED;
    private static final int INTERFACE = ApiCompare.INTERFACE;
    private static final Check check = new Check();

    public static void main(String[] args) {
        promises13To15();
        promise13OnlyThoseThatCompile();
        promise14ValuesDoNotBreak();
        promise15SixteenUses();
        promise16There();
        promise16Type();
        promise16Fields();
        promise16Methods();
        promise16OtherTypesDoNotCount();
        promise17Under();
        check.end();
    }

    private static void promises13To15() {
        ApiCompare x = Check.withClass();
        x.use(Check.NEW, 5, 0, 0);
        check.due("13 none compiles", x.share(), 1.0);
        check.due("14 none compiles", x.breaking(), 0);
        x.use(Check.NEW, 0, 0, 0);
        check.due("13 one, it breaks", x.share(), 0.0);
        check.due("14 one, it breaks", x.breaking(), 1);
        check.due("15 one, it breaks", x.broken(0), 1);
        x.copy();
        x.use(Check.EXTEND, 0, 0, 0);
        x.use(Check.NEW, 0, 0, 0);
        check.due("13 none breaks", x.share(), 1.0);
        check.due("14 none breaks", x.breaking(), 0);
        check.due("15 none breaks", x.broken(0), REFUSED);
        x.type(1, 0, ApiCompare.ABSTRACT, 6, 0);
        check.due("13 two of three break", x.share(), 1.0 / 3.0);
        check.due("14 two of three break", x.breaking(), 2);
        check.due("15 the first", x.broken(0), 1);
        check.due("15 the second", x.broken(1), 3);
        check.due("15 no third", x.broken(2), REFUSED);
        check.due("15 k -1", x.broken(-1), REFUSED);
        check.due("15 k least", x.broken(Integer.MIN_VALUE), REFUSED);
        check.due("15 k greatest", x.broken(Integer.MAX_VALUE), REFUSED);
    }

    /** Errors of compiling are neither kept nor broken: NO_TYPE, NO_MEMBER, FIXED. */
    private static void promise13OnlyThoseThatCompile() {
        ApiCompare x = Check.withClass();
        x.type(0, 1, ApiCompare.FINAL, 6, 0);
        x.use(Check.EXTEND, 1, 0, 0);
        x.use(Check.READ, 0, 0, 0);
        x.use(Check.NEW, 3, 0, 0);
        x.use(Check.NEW, 0, 0, 0);
        x.use(Check.NEW, 1, 0, 0);
        x.copy();
        x.drop(1, 1);
        check.due("13 one of two", x.share(), 0.5);
        check.due("14 one of two", x.breaking(), 1);
        check.due("15 one of two", x.broken(0), 4);
    }

    private static void promise14ValuesDoNotBreak() {
        ApiCompare x = Check.withClass();
        x.type(0, 1, 0, 0, 0);
        x.field(0, 0, Check.FIXED_VALUE, 1);
        x.field(0, 1, 0, 0);
        x.method(0, 0, 0, 0);
        x.use(Check.READ, 0, 0, 0);
        x.use(Check.CALL, 1, 0, 0);
        x.use(Check.OVERRIDE, 0, 0, 0);
        x.use(Check.READ, 0, 1, 0);
        x.use(Check.WRITE, 0, 1, 0);
        x.copy();
        x.cut(1, 0, 0, Check.FIELD);
        x.cut(1, 0, 0, Check.NONE);
        x.method(7, 0, 0, 0);
        check.due("14 STALE", x.link(0), ApiCompare.STALE);
        check.due("14 MOVED", x.link(1), ApiCompare.MOVED);
        check.due("14 UNTIED", x.link(2), ApiCompare.UNTIED);
        check.due("14 these do not break", x.breaking(), 0);
        check.due("13 these do not break", x.share(), 1.0);
        x.field(12, 1, ApiCompare.FINAL, 0);
        check.due("14 ILLEGAL breaks", x.broken(0), 4);
        x.cut(1, 0, 1, Check.FIELD);
        check.due("14 LOST_MEMBER breaks", x.breaking(), 2);
        check.due("13 three of five", x.share(), 0.6);
    }

    private static void promise15SixteenUses() {
        ApiCompare x = Check.withClass();
        x.field(0, 0, 0, 0);
        for (int i = 0; i < 16; i++) {
            check.due("14 broken uses", x.breaking(), i);
            check.due("15 not yet", x.broken(i), REFUSED);
            x.use(Check.READ, 0, 0, 0);
            check.due("15 the last use", x.broken(i), i);
        }
        check.due("14 sixteen", x.breaking(), 16);
        check.due("15 no seventeenth", x.broken(16), REFUSED);
        check.due("13 sixteen", x.share(), 0.0);
    }

    private static void promise16There() {
        ApiCompare x = Check.withClass();
        x.type(1, 1, 0, 6, 0);
        check.due("16 only in version 0", x.differ(0), -3);
        check.due("16 only in version 1", x.differ(1), -4);
        check.due("16 in neither", x.differ(5), -2);
        check.due("16 type -1", x.differ(-1), REFUSED);
        check.due("16 type 6", x.differ(6), REFUSED);
        x.copy();
        check.due("16 the same", x.differ(0), 0);
    }

    private static void promise16Type() {
        ApiCompare x = new ApiCompare();
        x.type(0, 0, 0, 6, 0);
        x.type(0, 1, INTERFACE, 6, 0);
        x.type(0, 2, INTERFACE, 6, 0);
        x.type(0, 3, 0, 6, 0);
        x.copy();
        x.type(1, 3, ApiCompare.FINAL | ApiCompare.HIDDEN, 6, 0);
        check.due("16 flags count one", x.differ(3), 1);
        x.type(1, 2, INTERFACE | ApiCompare.ABSTRACT, 6, 0);
        check.due("16 flags are looked at as told", x.differ(2), 1);
        x.type(1, 3, 0, 0, 0);
        check.due("16 the super counts one", x.differ(3), 1);
        x.type(1, 3, 0, 6, 1 << 1 | 1 << 2);
        check.due("16 the set of interfaces counts one", x.differ(3), 1);
        x.type(1, 3, ApiCompare.ABSTRACT, 0, 1 << 1);
        check.due("16 all three", x.differ(3), 3);
        x.field(Check.fieldSpot(1, 0, 0), 0, 0, 0);
        check.due("16 what is inherited does not count", x.differ(3), 3);
    }

    private static void promise16Fields() {
        ApiCompare x = Check.withClass();
        x.copy();
        int spot = Check.fieldSpot(1, 0, Check.INT_FIELD);
        x.field(spot, 0, Check.FIXED_VALUE, 3);
        check.due("16 field in version 1 alone", x.differ(0), 1);
        x.field(0, 0, Check.FIXED_VALUE, 3);
        check.due("16 the same field", x.differ(0), 0);
        x.field(spot, 0, Check.FIXED_VALUE, 4);
        check.due("16 another value", x.differ(0), 1);
        x.field(spot + 1, 0, Check.FIXED_VALUE, 3);
        check.due("16 another kind", x.differ(0), 1);
        x.field(spot, 0, Check.STATIC_FINAL, 3);
        check.due("16 other flags", x.differ(0), 1);
        x.field(0, 0, Check.STATIC_FINAL, 9);
        check.due("16 v counts for CONSTANT alone", x.differ(0), 0);
        x.field(0, 0, Check.FIXED_VALUE, 9);
        x.field(0, 3, 0, 0);
        check.due("16 each name counts", x.differ(0), 2);
        x.cut(0, 0, 0, Check.FIELD);
        x.cut(0, 0, 3, Check.FIELD);
        x.cut(1, 0, 0, Check.FIELD);
        check.due("16 fields gone from both", x.differ(0), 0);
    }

    private static void promise16Methods() {
        ApiCompare x = Check.withClass();
        x.copy();
        x.method(0, 0, Check.sign(Check.INT, Check.INT), 0);
        check.due("16 method in version 0 alone", x.differ(0), 1);
        x.method(6, 0, Check.sign(Check.INT, Check.INT), 0);
        check.due("16 the same method", x.differ(0), 0);
        x.method(6, 0, Check.sign(Check.INT, Check.LONG), 0);
        check.due("16 another answer", x.differ(0), 1);
        x.method(6, 0, Check.sign(Check.INT, Check.INT), ApiCompare.FINAL);
        check.due("16 other flags", x.differ(0), 1);
        x.method(6, 0, Check.sign(Check.INT, Check.LONG), ApiCompare.FINAL);
        check.due("16 both count one", x.differ(0), 1);
        x.method(6, 0, Check.sign(Check.LONG, Check.INT), 0);
        x.method(6, 2, Check.sign(Check.DOUBLE, Check.INT), 0);
        check.due("16 each name and parameter counts", x.differ(0), 3);
        x.cut(0, 0, 0, Check.INT);
        x.cut(1, 0, 0, Check.INT);
        check.due("16 methods gone from both", x.differ(0), 2);
    }

    private static void promise16OtherTypesDoNotCount() {
        ApiCompare x = new ApiCompare();
        for (int type = 0; type < 6; type++) {
            x.type(0, type, 0, 6, 0);
        }
        x.copy();
        for (int name = 0; name < 4; name++) {
            x.field(Check.fieldSpot(1, 3, Check.INT_FIELD), name, 0, 0);
        }
        for (int i = 0; i < 12; i++) {
            x.method(Check.methodSpot(1, 3), i / 4, Check.sign(i % 4, Check.NONE), 0);
        }
        for (int type = 0; type < 6; type++) {
            check.due("16 type " + type, x.differ(type), type == 3 ? 16 : 0);
        }
    }

    private static void promise17Under() {
        ApiCompare x = new ApiCompare();
        x.type(1, 0, INTERFACE, 6, 0);
        x.type(1, 1, INTERFACE, 6, 1 << 0);
        x.type(1, 2, 0, 6, 1 << 1);
        x.type(1, 3, 0, 2, 0);
        x.type(1, 4, INTERFACE, 6, 0);
        x.type(1, 5, 0, 3, 1 << 4);
        String[] due = {"100000", "110000", "111000", "111100", "000010", "111111"};
        for (int type = 0; type < 6; type++) {
            for (int other = 0; other < 6; other++) {
                boolean isUnder = due[type].charAt(other) == '1';
                check.due("17 " + type + " under " + other, x.under(1, type, other), isUnder);
                check.due("17 none there", x.under(0, type, other), false);
            }
            check.due("17 other -1", x.under(1, type, -1), false);
            check.due("17 other 6", x.under(1, type, 6), false);
            check.due("17 type -1", x.under(1, -1, type), false);
            check.due("17 type 6", x.under(1, 6, type), false);
            check.due("17 version -1", x.under(-1, type, type), false);
            check.due("17 version 2", x.under(2, type, type), false);
        }
        x.drop(1, 5);
        check.due("17 gone", x.under(1, 5, 5), false);
    }
}
