import java.util.function.IntPredicate;
import java.util.function.Supplier;

/**
 * Each number that a call takes, too small, least, greatest and too large, while all the others are right. The
 * numbers far away are there for what wraps around: 12 * version, 1 << number and their like.
 */
public final class RangeTest {
    private static final int[] FAR = {
        Integer.MIN_VALUE, Integer.MIN_VALUE + 1, Integer.MAX_VALUE, Integer.MAX_VALUE - 1, -64, 128, 256, 65536,
        1 << 24, 1 << 28, 1 << 29, 1 << 30, 3 << 30,
    };
    private static final Check check = new Check();

    private interface Call {
        int answer(ApiCompare x, int number);
    }

    public static void main(String[] args) {
        promise2();
        promise2NumbersOfNames();
        promise3();
        promise4();
        promise5();
        promise6();
        promise8();
        promise8Arguments();
        promises9To11();
        promise12();
        promise15();
        promise16();
        promise17();
        promise18();
        check.end();
    }

    /** Asks about each number on an object of its own; what is not accepted is to be REFUSED. */
    private static void range(String what, Supplier<ApiCompare> maker, IntPredicate accepted, Call call) {
        for (int number = -40; number < 80; number++) {
            one(what, maker, accepted, call, number);
        }
        for (int number : FAR) {
            one(what, maker, accepted, call, number);
        }
    }

    private static void one(String what, Supplier<ApiCompare> maker, IntPredicate accepted, Call call, int number) {
        boolean refused = call.answer(maker.get(), number) == ApiCompare.REFUSED;
        check.due(what + " " + number + " is refused", refused, !accepted.test(number));
    }

    private static IntPredicate upTo(int greatest) {
        return n -> 0 <= n && n <= greatest;
    }

    /** The classes 0 to 5 in both versions, without members. */
    private static ApiCompare classes() {
        ApiCompare x = new ApiCompare();
        for (int type = 0; type < 6; type++) {
            x.type(0, type, 0, Check.NO_SUPER, 0);
        }
        x.copy();
        return x;
    }

    /** The interfaces 0 to 4 in both versions. */
    private static ApiCompare interfaces() {
        ApiCompare x = new ApiCompare();
        for (int type = 0; type < 5; type++) {
            x.type(0, type, ApiCompare.INTERFACE, Check.NO_SUPER, 0);
        }
        x.copy();
        return x;
    }

    /** The classes 0 to 5 in both versions, with each field and each method that they can have. */
    private static ApiCompare filled() {
        ApiCompare x = classes();
        for (int type = 0; type < 6; type++) {
            for (int name = 0; name < 4; name++) {
                x.field(Check.fieldSpot(0, type, Check.INT_FIELD), name, 0, 0);
            }
            for (int i = 0; i < 12; i++) {
                x.method(Check.methodSpot(0, type), i / 4, Check.sign(i % 4, Check.NONE), 0);
            }
        }
        x.copy();
        return x;
    }

    /** Three uses, each bound to the value 7 in both versions. */
    private static ApiCompare withThreeUses() {
        ApiCompare x = classes();
        x.field(0, 0, Check.FIXED_VALUE, 7);
        x.copy();
        for (int i = 0; i < 3; i++) {
            x.use(Check.READ, 0, 0, 0);
        }
        return x;
    }

    private static void promise2() {
        range("2 version", ApiCompare::new, upTo(1), (x, n) -> x.type(n, 0, 0, 6, 0));
        range("2 type", ApiCompare::new, upTo(5), (x, n) -> x.type(0, n, 0, 6, 0));
        range("2 type, in version 1", ApiCompare::new, upTo(5), (x, n) -> x.type(1, n, 0, 6, 0));
        IntPredicate isClassOrInterface = n -> upTo(15).test(n) && (n & 5) != 5;
        range("2 flags", ApiCompare::new, isClassOrInterface, (x, n) -> x.type(0, 0, n, 6, 0));
        range("2 flags, told anew", RangeTest::classes, isClassOrInterface, (x, n) -> x.type(1, 5, n, 6, 0));
    }

    private static void promise2NumbersOfNames() {
        range("2 super of 5", RangeTest::classes, n -> upTo(6).test(n) && n != 5, (x, n) -> x.type(0, 5, 0, n, 0));
        range("2 super of 1", RangeTest::classes, n -> n == 0 || n == 6, (x, n) -> x.type(0, 1, 0, n, 0));
        range("2 super of 0", RangeTest::classes, n -> n == 6, (x, n) -> x.type(0, 0, 0, n, 0));
        range("2 super of an interface", RangeTest::classes, n -> n == 6, (x, n) -> x.type(0, 5, 1, n, 0));
        range("2 interfaces of 5", RangeTest::interfaces, upTo(31), (x, n) -> x.type(0, 5, 0, 6, n));
        range("2 interfaces of the interface 5", RangeTest::interfaces, upTo(31), (x, n) -> x.type(1, 5, 1, 6, n));
        range("2 interfaces of 2", RangeTest::interfaces, upTo(3), (x, n) -> x.type(0, 2, 0, 6, n));
        range("2 interfaces of 0", RangeTest::interfaces, n -> n == 0, (x, n) -> x.type(0, 0, 0, 6, n));
    }

    private static void promise3() {
        range("3 version", RangeTest::classes, upTo(1), (x, n) -> x.drop(n, 0));
        range("3 type", RangeTest::classes, upTo(5), (x, n) -> x.drop(0, n));
        range("3 type, in version 1", RangeTest::classes, upTo(5), (x, n) -> x.drop(1, n));
    }

    private static void promise4() {
        range("4 spot", RangeTest::classes, upTo(23), (x, n) -> x.field(n, 0, 0, 0));
        range("4 name", RangeTest::classes, upTo(3), (x, n) -> x.field(0, n, 0, 0));
        IntPredicate isField = n -> upTo(31).test(n) && (n & 2) == 0 && (n < 16 || (n & 5) == 5);
        range("4 flags", RangeTest::classes, isField, (x, n) -> x.field(0, 0, n, 0));
        range("4 flags of a DOUBLE", RangeTest::classes, isField, (x, n) -> x.field(23, 3, n, 0));
        range("4 v", RangeTest::classes, n -> true, (x, n) -> x.field(0, 0, 0, n));
        range("4 v of a CONSTANT", RangeTest::classes, n -> true, (x, n) -> x.field(1, 0, Check.FIXED_VALUE, n));
    }

    private static void promise5() {
        range("5 spot", RangeTest::classes, upTo(11), (x, n) -> x.method(n, 0, 0, 0));
        range("5 name", RangeTest::classes, upTo(2), (x, n) -> x.method(0, n, 0, 0));
        range("5 sign", RangeTest::classes, upTo(15), (x, n) -> x.method(0, 0, n, 0));
        IntPredicate isMethod = n -> upTo(15).test(n) && ((n & 2) == 0 || n == 2);
        range("5 flags", RangeTest::classes, isMethod, (x, n) -> x.method(0, 0, 0, n));
        range("5 flags in an interface", RangeTest::interfaces, isMethod, (x, n) -> x.method(0, 0, 0, n));
    }

    private static void promise6() {
        range("6 version", RangeTest::filled, upTo(1), (x, n) -> x.cut(n, 0, 0, Check.FIELD));
        range("6 type", RangeTest::filled, upTo(5), (x, n) -> x.cut(0, n, 0, Check.FIELD));
        range("6 type of a method", RangeTest::filled, upTo(5), (x, n) -> x.cut(1, n, 0, Check.NONE));
        range("6 name of a field", RangeTest::filled, upTo(3), (x, n) -> x.cut(0, 0, n, Check.FIELD));
        range("6 name of a last field", RangeTest::filled, upTo(3), (x, n) -> x.cut(1, 5, n, Check.FIELD));
        for (int parameter = 0; parameter < 4; parameter++) {
            int same = parameter;
            range("6 name of a method", RangeTest::filled, upTo(2), (x, n) -> x.cut(0, 5, n, same));
        }
        range("6 parameter", RangeTest::filled, upTo(4), (x, n) -> x.cut(0, 0, 0, n));
        range("6 parameter, the name 3", RangeTest::filled, n -> n == 4, (x, n) -> x.cut(0, 0, 3, n));
    }

    private static boolean isOfMethod(int kind) {
        return kind == Check.CALL || kind == Check.CALL_STATIC || kind == Check.OVERRIDE;
    }

    private static void promise8() {
        range("8 kind", ApiCompare::new, upTo(6), (x, n) -> x.use(n, 0, 0, 0));
        for (int kind = 0; kind < 7; kind++) {
            int same = kind;
            range("8 type, kind " + kind, ApiCompare::new, upTo(5), (x, n) -> x.use(same, n, 0, 0));
            IntPredicate isName = upTo(isOfMethod(kind) ? 2 : 3);
            range("8 name, kind " + kind, ApiCompare::new, isName, (x, n) -> x.use(same, 0, n, 0));
        }
    }

    private static void promise8Arguments() {
        for (int kind = 0; kind < 7; kind++) {
            int same = kind;
            IntPredicate isArgument = isOfMethod(kind) ? upTo(3) : n -> true;
            range("8 argument, kind " + kind, ApiCompare::new, isArgument, (x, n) -> x.use(same, 0, 0, n));
        }
    }

    private static void promises9To11() {
        range("9 use", RangeTest::withThreeUses, upTo(2), (x, n) -> x.compile(n, 0));
        range("9 use, none there", RangeTest::classes, n -> false, (x, n) -> x.compile(n, 0));
        range("9 version", RangeTest::withThreeUses, upTo(1), (x, n) -> x.compile(0, n));
        range("10 use", RangeTest::withThreeUses, upTo(2), (x, n) -> x.link(n));
        range("10 use, none there", RangeTest::classes, n -> false, (x, n) -> x.link(n));
        range("11 use", RangeTest::withThreeUses, upTo(2), (x, n) -> x.recompile(n));
        range("11 use, none there", RangeTest::classes, n -> false, (x, n) -> x.recompile(n));
    }

    /** The value 7.0 counts as accepted, and 0.0 as refused; any other one as neither. */
    private static int isSeven(double value) {
        check.due("12 value is 7.0 or 0.0", value == 7.0 || value == 0.0, true);
        return value == 7.0 ? 0 : ApiCompare.REFUSED;
    }

    private static void promise12() {
        range("12 use", RangeTest::withThreeUses, upTo(2), (x, n) -> isSeven(x.value(n, 0)));
        range("12 use, none there", RangeTest::classes, n -> false, (x, n) -> isSeven(x.value(n, 0)));
        range("12 version", RangeTest::withThreeUses, upTo(1), (x, n) -> isSeven(x.value(0, n)));
    }

    /** Of five uses three break: 1, 2 and 4. */
    private static ApiCompare withThreeBroken() {
        ApiCompare x = classes();
        x.drop(1, 0);
        int[] types = {1, 0, 0, 1, 0};
        for (int type : types) {
            x.use(Check.NEW, type, 0, 0);
        }
        return x;
    }

    private static void promise15() {
        range("15 k", RangeTest::withThreeBroken, upTo(2), (x, n) -> x.broken(n));
        range("15 k, none broken", RangeTest::withThreeUses, n -> false, (x, n) -> x.broken(n));
    }

    private static void promise16() {
        range("16 type", RangeTest::classes, upTo(5), (x, n) -> x.differ(n));
        range("16 type, none there", ApiCompare::new, upTo(5), (x, n) -> x.differ(n));
    }

    /** 5 is under each type, and each one is under 0. */
    private static ApiCompare chain() {
        ApiCompare x = new ApiCompare();
        for (int type = 0; type < 6; type++) {
            x.type(0, type, 0, type == 0 ? Check.NO_SUPER : type - 1, 0);
        }
        x.copy();
        return x;
    }

    private static int yes(boolean answer) {
        return answer ? 0 : ApiCompare.REFUSED;
    }

    private static void promise17() {
        range("17 version", RangeTest::chain, upTo(1), (x, n) -> yes(x.under(n, 5, 0)));
        range("17 type", RangeTest::chain, upTo(5), (x, n) -> yes(x.under(0, n, 0)));
        range("17 other", RangeTest::chain, upTo(5), (x, n) -> yes(x.under(1, 5, n)));
        range("17 type, none there", ApiCompare::new, n -> false, (x, n) -> yes(x.under(0, n, n)));
    }

    private static void promise18() {
        for (int what = 0; what < 4; what++) {
            int same = what;
            range("18 version, what " + what, ApiCompare::new, upTo(1), (x, n) -> x.count(n, same));
        }
        range("18 what", ApiCompare::new, upTo(3), (x, n) -> x.count(0, n));
        range("18 what, in version 1", RangeTest::filled, upTo(3), (x, n) -> x.count(1, n));
    }
}
