/** The sentences of the promises that name an edge, one test for each; numbers out of range are in RangeTest. */
public final class PromiseEdgeTest {
    private static final int REFUSED = ApiCompare.REFUSED;
    private static final int INTERFACE = ApiCompare.INTERFACE;
    private static final int HIDDEN = ApiCompare.HIDDEN;
    private static final int NO_SUPER = Check.NO_SUPER;
    private static final Check check = new Check();

    public static void main(String[] args) {
        promise1StateOfANewObject();
        promise1FiveHundredAndTwelveCalls();
        promise2MembersStay();
        promise2AnotherKindWhileNamed();
        promise3MembersGo();
        promise4VIsLookedAtForConstantAlone();
        promise6OnlyItsOwn();
        promise7EmptyAndFull();
        promise7EachPart();
        promise8NumbersAndFull();
        promise8TypeNeedNotBeThere();
        promise11ErrorsAndBindings();
        promise11Values();
        promise12ZeroIfNotBoundToAValue();
        promise13NoneCompiles();
        promise14OnlyWhatCompilesCanBreak();
        promise15FirstToLast();
        promise16ThereOrNot();
        promise16LeastAndMost();
        promise16InterfaceFlagsAsTold();
        promise17BothMustBeThere();
        promise18LeastAndMost();
        check.end();
    }

    private static void classes(ApiCompare x, int version) {
        for (int type = 0; type < 6; type++) {
            x.type(version, type, 0, NO_SUPER, 0);
        }
    }

    private static void fill(ApiCompare x, int version, int type, int flags) {
        for (int name = 0; name < 4; name++) {
            x.field(Check.fieldSpot(version, type, Check.INT_FIELD), name, flags, 0);
        }
        for (int i = 0; i < 12; i++) {
            x.method(Check.methodSpot(version, type), i / 4, Check.sign(i % 4, Check.NONE), flags);
        }
    }

    /** "makes an object in the state that the terms give". */
    private static void promise1StateOfANewObject() {
        ApiCompare x = new ApiCompare();
        StringBuilder due = new StringBuilder("uses 0");
        for (int version = 0; version < 2; version++) {
            due.append(" version ").append(version).append(" 0 0 0").append(" n".repeat(36));
        }
        due.append(" differ -2".repeat(6)).append(" share 1.0 breaking 0");
        check.due("1 nothing is there", Snapshot.of(x), due.toString());
        check.due("1 nothing is broken", x.broken(0), REFUSED);
        check.due("1 the first use is 0", x.use(Check.NEW, 0, 0, 0), 0);
    }

    /** "An object is used for at most 512 calls": the last of them is answered as the first. */
    private static void promise1FiveHundredAndTwelveCalls() {
        ApiCompare x = new ApiCompare();
        int calls = 0;
        for (int round = 0; round < 127; round++) {
            check.due("told, round " + round, x.type(0, 0, 0, NO_SUPER, 0), 0);
            check.due("copied, round " + round, x.copy(), 0);
            check.due("dropped, round " + round, x.drop(0, 0), 0);
            check.due("asked, round " + round, x.differ(0), -4);
            calls += 4;
        }
        x.use(Check.NEW, 0, 0, 0);
        x.type(0, 0, 0, NO_SUPER, 0);
        x.type(1, 0, ApiCompare.ABSTRACT, NO_SUPER, 0);
        calls += 3;
        check.due("1 the call before the last one", calls, 511);
        check.due("1 the last call", x.link(0), ApiCompare.CHANGED);
    }

    /** "in place of one there before (its fields and methods stay)". */
    private static void promise2MembersStay() {
        ApiCompare x = Check.withClass();
        fill(x, 0, 0, 0);
        x.use(Check.READ, 0, 3, 0);
        x.use(Check.CALL, 0, 2, Check.DOUBLE);
        int[] flags = {INTERFACE, HIDDEN, ApiCompare.FINAL, 0};
        for (int told : flags) {
            check.due("2 told anew, flags " + told, x.type(0, 0, told, NO_SUPER, 0), 0);
            check.due("2 fields stay", x.count(0, 1), 4);
            check.due("2 methods stay", x.count(0, 2), 12);
        }
        check.due("2 the field is found", x.compile(0, 0), 0);
        check.due("2 the method is found", x.compile(1, 0), 0);
        check.due("2 it is one type still", x.count(0, 0), 1);
    }

    /** "or it is another kind (class, interface) than before while others there name it: REFUSED". */
    private static void promise2AnotherKindWhileNamed() {
        ApiCompare x = new ApiCompare();
        x.type(0, 0, 0, NO_SUPER, 0);
        x.type(0, 1, INTERFACE, NO_SUPER, 0);
        x.type(0, 5, 0, 0, 1 << 1);
        check.due("2 a named class", x.type(0, 0, INTERFACE, NO_SUPER, 0), REFUSED);
        check.due("2 a named interface", x.type(0, 1, 0, NO_SUPER, 0), REFUSED);
        check.due("2 a named class, the same kind", x.type(0, 0, HIDDEN, NO_SUPER, 0), 0);
        check.due("2 a named interface, the same kind", x.type(0, 1, INTERFACE | HIDDEN, NO_SUPER, 0), 0);
        check.due("2 the one that names them", x.type(0, 5, INTERFACE, NO_SUPER, 1 << 1), 0);
        check.due("2 the class is named no more", x.type(0, 0, INTERFACE, NO_SUPER, 0), 0);
        check.due("2 the interface is named still", x.type(0, 1, 0, NO_SUPER, 0), REFUSED);
        x.drop(0, 5);
        check.due("2 nor is the interface", x.type(0, 1, 0, NO_SUPER, 0), 0);
    }

    /** "The type is not there any more, nor its fields and methods." */
    private static void promise3MembersGo() {
        ApiCompare x = new ApiCompare();
        classes(x, 0);
        for (int type = 1; type < 4; type++) {
            fill(x, 0, type, 0);
        }
        x.copy();
        check.due("3 drop", x.drop(0, 2), 0);
        check.due("3 fields of the others stay", x.count(0, 1), 8);
        check.due("3 methods of the others stay", x.count(0, 2), 24);
        check.due("3 the other version stays", x.count(1, 2), 36);
        x.type(0, 2, 0, NO_SUPER, 0);
        for (int parameter = 0; parameter <= Check.FIELD; parameter++) {
            for (int name = 0; name < 4; name++) {
                check.due("3 none comes back", x.cut(0, 2, name, parameter), REFUSED);
            }
        }
        check.due("3 all of it differs", x.differ(2), 16);
    }

    /** "v any (looked at for CONSTANT alone)". */
    private static void promise4VIsLookedAtForConstantAlone() {
        int[] flags = {0, ApiCompare.STATIC, ApiCompare.FINAL, Check.STATIC_FINAL, HIDDEN, Check.STATIC_FINAL | HIDDEN};
        for (int told : flags) {
            ApiCompare x = Check.withClass();
            x.copy();
            x.use(Check.READ, 0, 0, 0);
            x.field(0, 0, told, Integer.MIN_VALUE);
            x.field(12, 0, told, Integer.MAX_VALUE);
            check.due("4 the same field, flags " + told, x.differ(0), 0);
            check.due("4 no value, flags " + told, x.value(0, 0), 0.0);
        }
        ApiCompare y = Check.withClass();
        y.copy();
        y.field(0, 0, Check.FIXED_VALUE, Integer.MIN_VALUE);
        y.field(12, 0, Check.FIXED_VALUE, Integer.MAX_VALUE);
        check.due("4 two constants", y.differ(0), 1);
    }

    /** "of that name of the type .. REFUSED if there is none": what is above it is not its own. */
    private static void promise6OnlyItsOwn() {
        ApiCompare x = new ApiCompare();
        x.type(0, 0, 0, NO_SUPER, 0);
        x.type(0, 1, INTERFACE, NO_SUPER, 0);
        x.type(0, 2, 0, 0, 1 << 1);
        fill(x, 0, 0, 0);
        fill(x, 0, 1, 0);
        for (int parameter = 0; parameter <= Check.FIELD; parameter++) {
            check.due("6 of a type above, " + parameter, x.cut(0, 2, 0, parameter), REFUSED);
            check.due("6 its own, " + parameter, x.cut(0, 0, 0, parameter), 0);
            check.due("6 no more, " + parameter, x.cut(0, 0, 0, parameter), REFUSED);
            check.due("6 of the other version, " + parameter, x.cut(1, 0, 0, parameter), REFUSED);
        }
        check.due("6 the other fields stay", x.count(0, 1), 7);
        check.due("6 the other methods stay", x.count(0, 2), 20);
    }

    /** "The version 1 becomes all that the version 0 is": also if that is nothing, or all there can be. */
    private static void promise7EmptyAndFull() {
        ApiCompare x = new ApiCompare();
        classes(x, 1);
        fill(x, 1, 5, 0);
        x.use(Check.NEW, 5, 0, 0);
        check.due("7 nothing", x.copy(), 0);
        for (int what = 0; what < 3; what++) {
            check.due("7 nothing is there, what " + what, x.count(1, what), 0);
        }
        check.due("7 the use stays", x.count(1, 3), 1);
        x.type(1, 5, 0, NO_SUPER, 0);
        check.due("7 no member comes back", x.count(1, 1) + x.count(1, 2), 0);
        classes(x, 0);
        for (int type = 0; type < 6; type++) {
            fill(x, 0, type, type % 2);
        }
        check.due("7 all", x.copy(), 0);
        for (int type = 0; type < 6; type++) {
            check.due("7 the same, type " + type, x.differ(type), 0);
        }
        check.due("7 all methods", x.count(1, 2), 72);
    }

    /** "all that the version 0 is": each part of the first and of the last type, field and method. */
    private static void promise7EachPart() {
        for (int type = 2; type < 6; type++) {
            ApiCompare x = new ApiCompare();
            x.type(0, 0, INTERFACE, NO_SUPER, 0);
            x.type(0, 1, 0, NO_SUPER, 0);
            x.type(0, type, HIDDEN, 1, 1 << 0);
            for (int name = 0; name < 4; name++) {
                x.field(Check.fieldSpot(0, type, Check.DOUBLE_FIELD), name, Check.FIXED_VALUE, 9 + name);
                x.use(Check.READ, type, name, 0);
            }
            for (int i = 0; i < 12; i++) {
                x.method(Check.methodSpot(0, type), i / 4, Check.sign(i % 4, Check.LONG), ApiCompare.STATIC);
            }
            x.copy();
            check.due("7 the same, " + type, x.differ(type), 0);
            check.due("7 its super, " + type, x.under(1, type, 1), true);
            check.due("7 its interface, " + type, x.under(1, type, 0), true);
            x.type(1, type, 0, 1, 1 << 0);
            for (int name = 0; name < 4; name++) {
                check.due("7 kind and value of " + name, x.value(name, 1), (9 + name) * 0.5);
            }
        }
    }

    /** "16 uses: FULL. Its number." A refused one takes no number. */
    private static void promise8NumbersAndFull() {
        for (int kind = 0; kind < 7; kind++) {
            ApiCompare x = new ApiCompare();
            for (int i = 0; i < 16; i++) {
                check.due("8 refused before " + i, x.use(kind, 6, 0, 0), REFUSED);
                check.due("8 number " + i, x.use(kind, i % 6, i % 3, i % 4), i);
            }
            check.due("8 the seventeenth", x.use(kind, 0, 0, 0), ApiCompare.FULL);
            check.due("8 again", x.use(kind, 0, 0, 0), ApiCompare.FULL);
            check.due("8 a wrong one stays REFUSED", x.use(kind, 6, 0, 0), REFUSED);
            check.due("8 sixteen", x.count(0, 3), 16);
            check.due("8 the last one can be asked for", x.compile(15, 0), ApiCompare.NO_TYPE);
            check.due("8 there is none behind it", x.compile(16, 0), REFUSED);
        }
    }

    /** "One more use .. of a type 0 .. 5": whether it is there is asked when it is compiled. */
    private static void promise8TypeNeedNotBeThere() {
        ApiCompare x = new ApiCompare();
        check.due("8 of a type not there", x.use(Check.NEW, 5, 0, 0), 0);
        x.type(0, 5, 0, NO_SUPER, 0);
        check.due("8 there now", x.compile(0, 0), 0);
        x.drop(0, 5);
        check.due("8 gone", x.compile(0, 0), ApiCompare.NO_TYPE);
        check.due("8 the use stays", x.count(0, 3), 1);
    }

    /** "the ERROR of the version 0, if there is one; else 0 .. 1 if another one, or its ERROR". */
    private static void promise11ErrorsAndBindings() {
        ApiCompare x = new ApiCompare();
        x.use(Check.EXTEND, 0, 0, 0);
        check.due("11 errors of both", x.recompile(0), ApiCompare.NO_TYPE);
        x.type(1, 0, ApiCompare.FINAL, NO_SUPER, 0);
        check.due("11 the one of version 0 first", x.recompile(0), ApiCompare.NO_TYPE);
        x.type(0, 0, 0, NO_SUPER, 0);
        check.due("11 the one of version 1", x.recompile(0), ApiCompare.FIXED);
        x.type(1, 0, INTERFACE, NO_SUPER, 0);
        check.due("11 another binding", x.recompile(0), 1);
        x.type(1, 0, ApiCompare.ABSTRACT, NO_SUPER, 0);
        check.due("11 the same binding", x.recompile(0), 0);
        x.type(0, 0, ApiCompare.FINAL, NO_SUPER, 0);
        check.due("11 the one of version 0 alone", x.recompile(0), ApiCompare.FIXED);
    }

    /** "(BINDINGS to values are the same if the values are, of the same kind.)" */
    private static void promise11Values() {
        int[] numbers = {0, 1, Integer.MIN_VALUE, Integer.MAX_VALUE};
        for (int old : numbers) {
            for (int now : numbers) {
                ApiCompare x = Check.withClass();
                x.copy();
                x.use(Check.READ, 0, 0, 0);
                x.field(0, 0, Check.FIXED_VALUE, old);
                x.field(12, 0, Check.FIXED_VALUE, now);
                check.due("11 INT " + old + " and " + now, x.recompile(0), old == now ? 0 : 1);
                x.field(13, 0, Check.FIXED_VALUE, now);
                check.due("11 INT " + old + " and DOUBLE " + now, x.recompile(0), 1);
                x.field(1, 0, Check.FIXED_VALUE, old);
                check.due("11 DOUBLE " + old + " and " + now, x.recompile(0), old == now ? 0 : 1);
                x.field(13, 0, Check.STATIC_FINAL, now);
                check.due("11 DOUBLE " + old + " and no value", x.recompile(0), 1);
                x.field(1, 0, Check.STATIC_FINAL, old);
                check.due("11 no value in both", x.recompile(0), 0);
            }
        }
    }

    /** "0.0 if it is not bound to a value": each kind of use but a READ, though a READ was asked just before. */
    private static void promise12ZeroIfNotBoundToAValue() {
        ApiCompare x = Check.withClass();
        x.field(0, 0, Check.FIXED_VALUE, 9);
        x.method(0, 0, Check.sign(Check.NONE, Check.NONE), ApiCompare.STATIC);
        x.method(0, 0, Check.sign(Check.INT, Check.NONE), 0);
        for (int kind = 0; kind < 7; kind++) {
            x.use(kind, 0, 0, kind == Check.OVERRIDE ? Check.INT : Check.NONE);
        }
        for (int kind = 1; kind < 7; kind++) {
            check.due("12 READ", x.value(0, 0), 9.0);
            check.due("12 kind " + kind, x.value(kind, 0), 0.0);
            check.due("12 READ, in version 1", x.value(0, 1), 0.0);
        }
        x.field(0, 0, Check.STATIC_FINAL, 9);
        check.due("12 READ of no CONSTANT", x.value(0, 0), 0.0);
    }

    /** "1.0 if there are none". */
    private static void promise13NoneCompiles() {
        ApiCompare x = new ApiCompare();
        check.due("13 no use at all", x.share(), 1.0);
        x.use(Check.NEW, 0, 0, 0);
        x.use(Check.READ, 1, 0, 0);
        x.type(0, 1, 0, NO_SUPER, 0);
        check.due("13 two that cannot be compiled", x.share(), 1.0);
        x.use(Check.EXTEND, 1, 0, 0);
        check.due("13 one that can, and breaks", x.share(), 0.0);
        x.type(1, 1, 0, NO_SUPER, 0);
        check.due("13 one that can, and does not", x.share(), 1.0);
    }

    /** "can be COMPILED against the version 0 and break". */
    private static void promise14OnlyWhatCompilesCanBreak() {
        ApiCompare x = new ApiCompare();
        classes(x, 1);
        for (int type = 0; type < 6; type++) {
            x.use(Check.NEW, type, 0, 0);
        }
        check.due("14 compiled against version 1 alone", x.breaking(), 0);
        classes(x, 0);
        check.due("14 none breaks", x.breaking(), 0);
        for (int type = 0; type < 6; type++) {
            x.drop(1, type);
            check.due("14 so many break", x.breaking(), type + 1);
        }
        for (int type = 0; type < 6; type++) {
            x.drop(0, type);
            check.due("14 without those that do not compile", x.breaking(), 5 - type);
        }
    }

    /** "The number of the k-th (from 0) of them; REFUSED if there is none." */
    private static void promise15FirstToLast() {
        ApiCompare x = new ApiCompare();
        x.type(0, 0, 0, NO_SUPER, 0);
        x.type(0, 1, 0, NO_SUPER, 0);
        x.type(1, 1, 0, NO_SUPER, 0);
        for (int i = 0; i < 16; i++) {
            x.use(Check.NEW, i % 3, 0, 0);
        }
        for (int k = 0; k < 6; k++) {
            check.due("15 k " + k, x.broken(k), 3 * k);
        }
        check.due("15 behind the last one", x.broken(6), REFUSED);
        check.due("15 before the first one", x.broken(-1), REFUSED);
        check.due("14 as many", x.breaking(), 6);
        check.due("13 and the rest", x.share(), 5.0 / 11.0);
    }

    /** "-2 it is in neither, -3 only in the version 0, -4 only in the version 1". */
    private static void promise16ThereOrNot() {
        for (int type = 0; type < 6; type++) {
            ApiCompare x = new ApiCompare();
            check.due("16 in neither", x.differ(type), -2);
            x.type(0, type, 0, NO_SUPER, 0);
            fill(x, 0, type, 0);
            check.due("16 only in version 0", x.differ(type), -3);
            x.type(1, type, 0, NO_SUPER, 0);
            check.due("16 in both", x.differ(type), 16);
            x.drop(0, type);
            check.due("16 only in version 1", x.differ(type), -4);
            x.drop(1, type);
            check.due("16 in neither again", x.differ(type), -2);
        }
    }

    /** "how many of these differ: flags, super, set of interfaces (each counts one), ..": from none to nineteen. */
    private static void promise16LeastAndMost() {
        ApiCompare x = new ApiCompare();
        x.type(0, 0, 0, NO_SUPER, 0);
        x.type(0, 1, INTERFACE, NO_SUPER, 0);
        x.type(0, 2, 0, 0, 1 << 1);
        x.copy();
        check.due("16 none", x.differ(2), 0);
        fill(x, 0, 2, 0);
        check.due("16 all members in version 0 alone", x.differ(2), 16);
        fill(x, 1, 2, ApiCompare.FINAL);
        check.due("16 all members in both, with other flags", x.differ(2), 16);
        x.type(1, 2, ApiCompare.FINAL | HIDDEN | ApiCompare.ABSTRACT, NO_SUPER, 0);
        check.due("16 all", x.differ(2), 19);
        x.copy();
        check.due("16 none again", x.differ(2), 0);
    }

    /** "flags": an interface told with ABSTRACT has other flags than one told without it (see README.md). */
    private static void promise16InterfaceFlagsAsTold() {
        ApiCompare x = new ApiCompare();
        x.type(0, 0, INTERFACE, NO_SUPER, 0);
        x.type(1, 0, INTERFACE | ApiCompare.ABSTRACT, NO_SUPER, 0);
        check.due("16 interface, ABSTRACT told in one alone", x.differ(0), 1);
        x.type(0, 0, INTERFACE | ApiCompare.ABSTRACT, NO_SUPER, 0);
        check.due("16 interface, ABSTRACT told in both", x.differ(0), 0);
    }

    /** "Whether a type there is a SUBTYPE of another one there, in a version; false for others." */
    private static void promise17BothMustBeThere() {
        ApiCompare x = new ApiCompare();
        x.type(0, 0, 0, NO_SUPER, 0);
        x.type(0, 1, 0, 0, 0);
        check.due("17 both there", x.under(0, 1, 0), true);
        check.due("17 the other way round", x.under(0, 0, 1), false);
        check.due("17 not in that version", x.under(1, 1, 0), false);
        x.type(1, 1, 0, NO_SUPER, 0);
        check.due("17 the other one is not there", x.under(1, 1, 0), false);
        check.due("17 the type is not there", x.under(1, 0, 1), false);
        x.drop(0, 1);
        check.due("17 it is gone", x.under(0, 1, 0), false);
        x.type(0, 1, 0, NO_SUPER, 0);
        check.due("17 it came back without a super", x.under(0, 1, 0), false);
    }

    /** "Types there in a version 0, 1 (what 0), fields (1), methods (2); uses (what 3, any version of these)." */
    private static void promise18LeastAndMost() {
        ApiCompare x = new ApiCompare();
        int[] most = {6, 24, 72, 16};
        for (int what = 0; what < 4; what++) {
            check.due("18 least, what " + what, x.count(0, what), 0);
        }
        classes(x, 0);
        for (int type = 0; type < 6; type++) {
            fill(x, 0, type, 0);
            fill(x, 0, type, ApiCompare.STATIC);
        }
        for (int i = 0; i < 17; i++) {
            x.use(Check.NEW, 0, 0, 0);
        }
        for (int what = 0; what < 4; what++) {
            check.due("18 most, what " + what, x.count(0, what), most[what]);
            check.due("18 in version 1, what " + what, x.count(1, what), what == 3 ? 16 : 0);
        }
    }
}
