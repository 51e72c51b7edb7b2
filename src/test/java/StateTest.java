/** Promises 1 to 8 and 18: what is told, what is refused, and what is there afterwards. */
public final class StateTest {
    private static final int REFUSED = ApiCompare.REFUSED;
    private static final int INTERFACE = ApiCompare.INTERFACE;
    private static final Check check = new Check();

    public static void main(String[] args) {
        promise1NewObject();
        promise2WrongNumbers();
        promise2Kinds();
        promise2Names();
        promise2InPlaceOfOneBefore();
        promise3Drop();
        promise4Field();
        promise4Constants();
        promise5Method();
        promise6Cut();
        promise7Copy();
        promise8Use();
        promise8Full();
        promise18Count();
        check.end();
    }

    private static void counts(String what, ApiCompare x, int version, int types, int fields, int methods) {
        check.due(what + ": types", x.count(version, 0), types);
        check.due(what + ": fields", x.count(version, 1), fields);
        check.due(what + ": methods", x.count(version, 2), methods);
    }

    private static void promise1NewObject() {
        ApiCompare x = new ApiCompare();
        counts("1 old", x, Check.OLD, 0, 0, 0);
        counts("1 new", x, Check.NOW, 0, 0, 0);
        check.due("1 uses", x.count(0, 3), 0);
        check.due("1 share", x.share(), 1.0);
        for (int t = 0; t < 6; t++) {
            check.due("1 differ", x.differ(t), -2);
            check.due("1 drop", x.drop(0, t), REFUSED);
        }
        Check.withClass();
        check.due("1 objects share nothing", x.count(0, 0), 0);
    }

    private static void promise2WrongNumbers() {
        ApiCompare x = new ApiCompare();
        check.due("2 version -1", x.type(-1, 0, 0, 6, 0), REFUSED);
        check.due("2 version 2", x.type(2, 0, 0, 6, 0), REFUSED);
        check.due("2 type -1", x.type(0, -1, 0, 6, 0), REFUSED);
        check.due("2 type 6", x.type(0, 6, 0, 6, 0), REFUSED);
        check.due("2 flags -1", x.type(0, 0, -1, 6, 0), REFUSED);
        check.due("2 flags 16", x.type(0, 0, 16, 6, 0), REFUSED);
        check.due("2 super -1", x.type(0, 0, 0, -1, 0), REFUSED);
        check.due("2 super 7", x.type(0, 0, 0, 7, 0), REFUSED);
        check.due("2 interfaces -1", x.type(0, 0, 0, 6, -1), REFUSED);
        check.due("2 interfaces 64", x.type(0, 0, 0, 6, 64), REFUSED);
        check.due("2 extremes", x.type(0, 0, 0, Integer.MIN_VALUE, Integer.MAX_VALUE), REFUSED);
        check.due("2 nothing was told", x.count(0, 0), 0);
    }

    private static void promise2Kinds() {
        for (int flags = 0; flags < 16; flags++) {
            ApiCompare x = new ApiCompare();
            boolean finalInterface = (flags & INTERFACE) != 0 && (flags & ApiCompare.FINAL) != 0;
            check.due("2 flags " + flags, x.type(1, 5, flags, 6, 0), finalInterface ? REFUSED : 0);
            check.due("2 there with flags " + flags, x.count(1, 0), finalInterface ? 0 : 1);
            check.due("2 the other version is as before", x.count(0, 0), 0);
        }
    }

    private static void promise2Names() {
        ApiCompare x = new ApiCompare();
        x.type(0, 0, 0, 6, 0);
        x.type(0, 1, INTERFACE, 6, 0);
        check.due("2 super is a class", x.type(0, 3, 0, 0, 0), 0);
        check.due("2 super is an interface", x.type(0, 3, 0, 1, 0), REFUSED);
        check.due("2 super is not there", x.type(0, 3, 0, 2, 0), REFUSED);
        check.due("2 super is itself", x.type(0, 3, 0, 3, 0), REFUSED);
        check.due("2 super is greater", x.type(0, 2, 0, 3, 0), REFUSED);
        check.due("2 interface with a super", x.type(0, 4, INTERFACE, 0, 0), REFUSED);
        check.due("2 interface with an interface", x.type(0, 4, INTERFACE, 6, 1 << 1), 0);
        check.due("2 interfaces hold a class", x.type(0, 5, 0, 6, 1 << 0), REFUSED);
        check.due("2 interfaces hold one not there", x.type(0, 5, 0, 6, 1 << 2), REFUSED);
        check.due("2 interfaces hold itself", x.type(0, 4, INTERFACE, 6, 1 << 4), REFUSED);
        check.due("2 interfaces hold a greater one", x.type(0, 2, 0, 6, 1 << 4), REFUSED);
        check.due("2 interfaces hold the right and the wrong", x.type(0, 5, 0, 6, 1 << 1 | 1 << 0), REFUSED);
        check.due("2 several interfaces", x.type(0, 5, 0, 3, 1 << 1 | 1 << 4), 0);
        check.due("2 a name of the other version", x.type(1, 5, 0, 3, 0), REFUSED);
        check.due("2 a final super is not ruled out", x.type(0, 0, ApiCompare.FINAL, 6, 0), 0);
        check.due("2 nor telling it then", x.type(0, 3, 0, 0, 0), 0);
    }

    private static void promise2InPlaceOfOneBefore() {
        ApiCompare x = new ApiCompare();
        x.type(0, 0, 0, 6, 0);
        x.field(0, 0, 0, 0);
        x.method(0, 0, 0, 0);
        check.due("2 a class becomes an interface, unnamed", x.type(0, 0, INTERFACE, 6, 0), 0);
        counts("2 what it has stays", x, 0, 1, 1, 1);
        x.type(0, 2, 0, 6, 1);
        check.due("2 the interface is named", x.type(0, 0, 0, 6, 0), REFUSED);
        check.due("2 but may stay an interface", x.type(0, 0, INTERFACE | ApiCompare.HIDDEN, 6, 0), 0);
        x.type(0, 3, 0, 2, 0);
        check.due("2 the class is named", x.type(0, 2, INTERFACE, 6, 1), REFUSED);
        check.due("2 but may stay a class", x.type(0, 2, ApiCompare.ABSTRACT, 6, 0), 0);
        check.due("2 its interfaces were told anew", x.under(0, 2, 0), false);
        check.due("2 so it is unnamed again", x.type(0, 0, 0, 6, 0), 0);
        check.due("2 naming in the other version does not count", x.type(1, 2, INTERFACE, 6, 0), 0);
    }

    private static void promise3Drop() {
        ApiCompare x = new ApiCompare();
        x.type(0, 0, 0, 6, 0);
        x.type(0, 1, INTERFACE, 6, 0);
        x.type(0, 2, 0, 0, 1 << 1);
        x.field(Check.fieldSpot(0, 2, 0), 3, 0, 0);
        x.method(Check.methodSpot(0, 2), 2, 15, 0);
        x.field(Check.fieldSpot(0, 1, 0), 0, 0, 0);
        x.method(Check.methodSpot(0, 1), 0, 0, 0);
        check.due("3 a named super", x.drop(0, 0), REFUSED);
        check.due("3 a named interface", x.drop(0, 1), REFUSED);
        check.due("3 in the other version", x.drop(1, 2), REFUSED);
        check.due("3 an unnamed one", x.drop(0, 2), 0);
        counts("3 its members are gone, others' stay", x, 0, 2, 1, 1);
        check.due("3 again", x.drop(0, 2), REFUSED);
        check.due("3 told again", x.type(0, 2, 0, 6, 0), 0);
        counts("3 it comes back empty", x, 0, 3, 1, 1);
        check.due("3 the super is free now", x.drop(0, 0), 0);
        check.due("3 the interface is free now", x.drop(0, 1), 0);
        check.due("3 version -1", x.drop(-1, 2), REFUSED);
        check.due("3 version 2", x.drop(2, 2), REFUSED);
        check.due("3 type -1", x.drop(0, -1), REFUSED);
        check.due("3 type 6", x.drop(0, 6), REFUSED);
    }

    private static void promise4Field() {
        ApiCompare x = new ApiCompare();
        check.due("4 no type there", x.field(0, 0, 0, 0), REFUSED);
        x.type(0, 0, 0, 6, 0);
        x.type(1, 5, 0, 6, 0);
        check.due("4 spot -1", x.field(-1, 0, 0, 0), REFUSED);
        check.due("4 spot 24", x.field(24, 0, 0, 0), REFUSED);
        check.due("4 name -1", x.field(0, -1, 0, 0), REFUSED);
        check.due("4 name 4", x.field(0, 4, 0, 0), REFUSED);
        check.due("4 flags -1", x.field(0, 0, -1, 0), REFUSED);
        check.due("4 flags 32", x.field(0, 0, 32, 0), REFUSED);
        check.due("4 type 5 of version 0 is not there", x.field(11, 0, 0, 0), REFUSED);
        check.due("4 type 0 of version 1 is not there", x.field(12, 0, 0, 0), REFUSED);
        counts("4 nothing yet", x, 0, 1, 0, 0);
        check.due("4 INT", x.field(0, 0, 0, 0), 0);
        check.due("4 DOUBLE in its place", x.field(1, 0, 0, 0), 0);
        counts("4 one a name", x, 0, 1, 1, 0);
        check.due("4 another name", x.field(1, 3, 0, 0), 0);
        counts("4 two names", x, 0, 1, 2, 0);
        check.due("4 the last spot", x.field(23, 0, 0, 0), 0);
        counts("4 in version 1", x, 1, 1, 1, 0);
        for (int flags = 0; flags < 32; flags++) {
            boolean constantAlone = flags >= 16 && (flags & 5) != 5;
            int due = (flags & 2) != 0 || constantAlone ? REFUSED : 0;
            check.due("4 flags " + flags, x.field(0, 1, flags, Integer.MIN_VALUE), due);
        }
    }

    private static void promise4Constants() {
        ApiCompare x = Check.withClass();
        x.use(Check.READ, 0, 0, 0);
        x.field(Check.fieldSpot(0, 0, Check.INT_FIELD), 0, Check.FIXED_VALUE, 7);
        check.due("4 INT is v", x.value(0, 0), 7.0);
        x.field(Check.fieldSpot(0, 0, Check.DOUBLE_FIELD), 0, Check.FIXED_VALUE, 7);
        check.due("4 DOUBLE is half of v", x.value(0, 0), 3.5);
        x.field(Check.fieldSpot(0, 0, Check.DOUBLE_FIELD), 0, Check.STATIC_FINAL, 7);
        check.due("4 no CONSTANT, no value", x.value(0, 0), 0.0);
    }

    private static void promise5Method() {
        ApiCompare x = new ApiCompare();
        check.due("5 no type there", x.method(0, 0, 0, 0), REFUSED);
        x.type(0, 0, 0, 6, 0);
        x.type(1, 5, 0, 6, 0);
        check.due("5 spot -1", x.method(-1, 0, 0, 0), REFUSED);
        check.due("5 spot 12", x.method(12, 0, 0, 0), REFUSED);
        check.due("5 name -1", x.method(0, -1, 0, 0), REFUSED);
        check.due("5 name 3", x.method(0, 3, 0, 0), REFUSED);
        check.due("5 sign -1", x.method(0, 0, -1, 0), REFUSED);
        check.due("5 sign 16", x.method(0, 0, 16, 0), REFUSED);
        check.due("5 flags -1", x.method(0, 0, 0, -1), REFUSED);
        check.due("5 flags 16", x.method(0, 0, 0, 16), REFUSED);
        check.due("5 type 0 of version 1 is not there", x.method(6, 0, 0, 0), REFUSED);
        check.due("5 type 5 of version 0 is not there", x.method(5, 0, 0, 0), REFUSED);
        counts("5 nothing yet", x, 0, 1, 0, 0);
        for (int sign = 0; sign < 16; sign++) {
            check.due("5 sign " + sign, x.method(0, 0, sign, 0), 0);
            counts("5 one a parameter", x, 0, 1, 0, sign / 4 + 1);
        }
        check.due("5 another name", x.method(0, 2, 0, 0), 0);
        counts("5 one a name", x, 0, 1, 0, 5);
        check.due("5 the last spot", x.method(11, 2, 15, 0), 0);
        counts("5 in version 1", x, 1, 1, 0, 1);
        for (int flags = 0; flags < 16; flags++) {
            int due = (flags & 2) != 0 && flags != 2 ? REFUSED : 0;
            check.due("5 flags " + flags, x.method(0, 1, 0, flags), due);
        }
    }

    private static void promise6Cut() {
        ApiCompare x = Check.withClass();
        x.field(0, 3, 0, 0);
        x.method(0, 2, Check.sign(Check.DOUBLE, Check.LONG), 0);
        check.due("6 version -1", x.cut(-1, 0, 3, Check.FIELD), REFUSED);
        check.due("6 version 1 has no such type", x.cut(1, 0, 3, Check.FIELD), REFUSED);
        check.due("6 version 2", x.cut(2, 0, 3, Check.FIELD), REFUSED);
        check.due("6 type -1", x.cut(0, -1, 3, Check.FIELD), REFUSED);
        check.due("6 type 6", x.cut(0, 6, 3, Check.FIELD), REFUSED);
        check.due("6 a field's name -1", x.cut(0, 0, -1, Check.FIELD), REFUSED);
        check.due("6 a field's name 4", x.cut(0, 0, 4, Check.FIELD), REFUSED);
        check.due("6 a method's name -1", x.cut(0, 0, -1, Check.DOUBLE), REFUSED);
        check.due("6 a method's name 3", x.cut(0, 0, 3, Check.DOUBLE), REFUSED);
        check.due("6 parameter -1", x.cut(0, 0, 2, -1), REFUSED);
        check.due("6 parameter 5", x.cut(0, 0, 2, 5), REFUSED);
        check.due("6 no such field", x.cut(0, 0, 2, Check.FIELD), REFUSED);
        check.due("6 no such method", x.cut(0, 0, 2, Check.LONG), REFUSED);
        counts("6 all is there still", x, 0, 1, 1, 1);
        check.due("6 the field", x.cut(0, 0, 3, Check.FIELD), 0);
        counts("6 without the field", x, 0, 1, 0, 1);
        check.due("6 the field again", x.cut(0, 0, 3, Check.FIELD), REFUSED);
        check.due("6 the method", x.cut(0, 0, 2, Check.DOUBLE), 0);
        counts("6 without both", x, 0, 1, 0, 0);
        check.due("6 the method again", x.cut(0, 0, 2, Check.DOUBLE), REFUSED);
    }

    private static void promise7Copy() {
        ApiCompare x = new ApiCompare();
        x.type(0, 0, INTERFACE, 6, 0);
        x.type(0, 1, ApiCompare.HIDDEN, 6, 1);
        x.type(0, 2, ApiCompare.ABSTRACT, 1, 0);
        x.field(Check.fieldSpot(0, 1, 1), 1, Check.FIXED_VALUE, 9);
        x.method(Check.methodSpot(0, 2), 1, 7, ApiCompare.STATIC);
        x.type(1, 5, 0, 6, 0);
        x.field(Check.fieldSpot(1, 5, 0), 0, 0, 0);
        x.method(Check.methodSpot(1, 5), 0, 0, 0);
        check.due("7 copy", x.copy(), 0);
        counts("7 what was there alone is gone", x, 1, 3, 1, 1);
        for (int t = 0; t < 6; t++) {
            check.due("7 differ " + t, x.differ(t), t < 3 ? 0 : -2);
        }
        check.due("7 names are copied", x.under(1, 2, 0), true);
        x.cut(1, 2, 1, Check.INT);
        x.drop(1, 2);
        counts("7 the old one does not follow", x, 0, 3, 1, 1);
        x.cut(0, 1, 1, Check.FIELD);
        counts("7 nor the new one", x, 1, 2, 1, 0);
        x.use(Check.NEW, 0, 0, 0);
        x.copy();
        check.due("7 uses stay", x.count(0, 3), 1);
    }

    private static void promise8Use() {
        ApiCompare x = new ApiCompare();
        check.due("8 kind -1", x.use(-1, 0, 0, 0), REFUSED);
        check.due("8 kind 7", x.use(7, 0, 0, 0), REFUSED);
        for (int kind = 0; kind < 7; kind++) {
            boolean ofMethod = kind == Check.CALL || kind == Check.CALL_STATIC || kind == Check.OVERRIDE;
            check.due("8 type -1, kind " + kind, x.use(kind, -1, 0, 0), REFUSED);
            check.due("8 type 6, kind " + kind, x.use(kind, 6, 0, 0), REFUSED);
            check.due("8 name -1, kind " + kind, x.use(kind, 0, -1, 0), REFUSED);
            check.due("8 name 4, kind " + kind, x.use(kind, 0, 4, 0), REFUSED);
            int next = x.count(0, 3);
            if (ofMethod) {
                check.due("8 name 3, kind " + kind, x.use(kind, 0, 3, 0), REFUSED);
                check.due("8 argument -1, kind " + kind, x.use(kind, 0, 0, -1), REFUSED);
                check.due("8 argument 4, kind " + kind, x.use(kind, 0, 0, 4), REFUSED);
                check.due("8 the last ones, kind " + kind, x.use(kind, 5, 2, 3), next);
            } else {
                check.due("8 any argument, kind " + kind, x.use(kind, 5, 3, Integer.MIN_VALUE), next);
                check.due("8 any argument, kind " + kind, x.use(kind, 0, 0, Integer.MAX_VALUE), next + 1);
            }
        }
    }

    private static void promise8Full() {
        ApiCompare x = new ApiCompare();
        for (int i = 0; i < 16; i++) {
            check.due("8 use " + i, x.use(Check.NEW, 0, 0, 0), i);
        }
        check.due("8 full", x.use(Check.NEW, 0, 0, 0), ApiCompare.FULL);
        check.due("8 wrong comes before full", x.use(7, 0, 0, 0), REFUSED);
        check.due("8 sixteen stay", x.count(0, 3), 16);
    }

    private static void promise18Count() {
        ApiCompare x = new ApiCompare();
        x.type(0, 0, 0, 6, 0);
        x.type(0, 4, 0, 6, 0);
        x.type(1, 3, 0, 6, 0);
        x.field(Check.fieldSpot(0, 4, 1), 0, 0, 0);
        x.field(Check.fieldSpot(0, 0, 0), 3, 0, 0);
        x.field(Check.fieldSpot(0, 0, 0), 0, 0, 0);
        x.method(Check.methodSpot(1, 3), 2, 12, 0);
        x.use(Check.NEW, 0, 0, 0);
        counts("18 old", x, 0, 2, 3, 0);
        counts("18 new", x, 1, 1, 0, 1);
        check.due("18 uses, version 0", x.count(0, 3), 1);
        check.due("18 uses, version 1", x.count(1, 3), 1);
        for (int what = -1; what < 5; what++) {
            check.due("18 version -1", x.count(-1, what), REFUSED);
            check.due("18 version 2", x.count(2, what), REFUSED);
        }
        check.due("18 what -1", x.count(0, -1), REFUSED);
        check.due("18 what 4", x.count(1, 4), REFUSED);
    }
}
