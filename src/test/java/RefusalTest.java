/**
 * A call that is refused changes nothing, and asking changes nothing: what the object answers afterwards is what a
 * second object answers, made in the same way but without that call.
 */
public final class RefusalTest {
    private static final int REFUSED = ApiCompare.REFUSED;
    private static final int INTERFACE = ApiCompare.INTERFACE;
    private static final Check check = new Check();

    private interface Call {
        int answer(ApiCompare x);
    }

    public static void main(String[] args) {
        promise2Type();
        promise3Drop();
        promise4Field();
        promise5Method();
        promise6Cut();
        promise8Use();
        promise8Full();
        askingChangesNothing();
        wrongQuestionsChangeNothing();
        theSnapshotSeesWhatIsTold();
        check.end();
    }

    /** 0 and 1 are interfaces, 1 under 0; 2 is a class with 1, 3 is under 2; 4 is there in version 1 alone. */
    private static ApiCompare prepared() {
        ApiCompare x = new ApiCompare();
        x.type(0, 0, INTERFACE, Check.NO_SUPER, 0);
        x.type(0, 1, INTERFACE, Check.NO_SUPER, 1 << 0);
        x.type(0, 2, 0, Check.NO_SUPER, 1 << 1);
        x.type(0, 3, 0, 2, 0);
        x.field(Check.fieldSpot(0, 2, Check.INT_FIELD), 0, Check.FIXED_VALUE, 5);
        x.field(Check.fieldSpot(0, 2, Check.DOUBLE_FIELD), 1, 0, 0);
        x.method(Check.methodSpot(0, 2), 0, Check.sign(Check.INT, Check.LONG), 0);
        x.method(Check.methodSpot(0, 0), 1, Check.sign(Check.NONE, Check.NONE), ApiCompare.ABSTRACT);
        x.copy();
        x.type(1, 4, 0, 3, 1 << 0);
        x.field(Check.fieldSpot(1, 3, Check.INT_FIELD), 0, Check.FIXED_VALUE, 6);
        addUses(x);
        return x;
    }

    /** Fifteen uses, so that one more has room. */
    private static void addUses(ApiCompare x) {
        for (int type = 2; type < 4; type++) {
            x.use(Check.READ, type, 0, 0);
            x.use(Check.WRITE, type, 1, 0);
            x.use(Check.CALL, type, 0, Check.INT);
            x.use(Check.CALL, type, 1, Check.NONE);
            x.use(Check.NEW, type, 0, 0);
            x.use(Check.EXTEND, type, 0, 0);
            x.use(Check.OVERRIDE, type, 0, Check.INT);
        }
        x.use(Check.NEW, 0, 0, 0);
    }

    private static void refused(String what, Call call) {
        changesNothing(what, call, REFUSED);
    }

    private static void changesNothing(String what, Call call, int due) {
        ApiCompare x = prepared();
        check.due(what, call.answer(x), due);
        check.due(what + " changes nothing", Snapshot.of(x), Snapshot.of(prepared()));
        check.due(what + ": the next use has the next number", x.use(Check.NEW, 0, 0, 0), 15);
    }

    private static void promise2Type() {
        refused("2 version 2", x -> x.type(2, 2, ApiCompare.HIDDEN, 6, 0));
        refused("2 type 6", x -> x.type(0, 6, ApiCompare.HIDDEN, 6, 0));
        refused("2 flags 16", x -> x.type(0, 2, 16, 6, 0));
        refused("2 a final interface", x -> x.type(0, 5, INTERFACE | ApiCompare.FINAL, 6, 0));
        refused("2 super 7", x -> x.type(0, 3, ApiCompare.HIDDEN, 7, 0));
        refused("2 super -1", x -> x.type(0, 3, ApiCompare.HIDDEN, -1, 0));
        refused("2 interfaces 64", x -> x.type(0, 3, ApiCompare.HIDDEN, 6, 64));
        refused("2 interfaces -1", x -> x.type(0, 3, ApiCompare.HIDDEN, 6, -1));
        refused("2 a super that is an interface", x -> x.type(0, 3, ApiCompare.HIDDEN, 0, 0));
        refused("2 a super that is not there", x -> x.type(0, 5, ApiCompare.HIDDEN, 4, 0));
        refused("2 a super that is itself", x -> x.type(0, 3, ApiCompare.HIDDEN, 3, 0));
        refused("2 an interface that is a class", x -> x.type(0, 3, ApiCompare.HIDDEN, 6, 1 << 2));
        refused("2 an interface with a super", x -> x.type(0, 5, INTERFACE, 2, 0));
        refused("2 a named class made an interface", x -> x.type(0, 2, INTERFACE, 6, 0));
        refused("2 a named interface made a class", x -> x.type(1, 0, 0, 6, 0));
    }

    private static void promise3Drop() {
        refused("3 version -1", x -> x.drop(-1, 3));
        refused("3 type 6", x -> x.drop(0, 6));
        refused("3 not there", x -> x.drop(0, 4));
        refused("3 a named class", x -> x.drop(0, 2));
        refused("3 a named interface", x -> x.drop(0, 0));
    }

    private static void promise4Field() {
        int spot = Check.fieldSpot(0, 2, Check.DOUBLE_FIELD);
        refused("4 spot -1", x -> x.field(-1, 0, 0, 0));
        refused("4 spot 24", x -> x.field(24, 0, 0, 0));
        refused("4 type not there", x -> x.field(Check.fieldSpot(0, 4, Check.INT_FIELD), 0, 0, 0));
        refused("4 name 4", x -> x.field(spot, 4, 0, 0));
        refused("4 name -1", x -> x.field(spot, -1, 0, 0));
        refused("4 flags 2", x -> x.field(spot, 0, 2, 0));
        refused("4 flags 32", x -> x.field(spot, 0, 32, 0));
        refused("4 CONSTANT alone", x -> x.field(spot, 0, ApiCompare.CONSTANT, 9));
        refused("4 CONSTANT, not final", x -> x.field(spot, 0, ApiCompare.CONSTANT | ApiCompare.STATIC, 9));
        refused("4 CONSTANT, not static", x -> x.field(spot, 0, ApiCompare.CONSTANT | ApiCompare.FINAL, 9));
    }

    private static void promise5Method() {
        int spot = Check.methodSpot(0, 2);
        int sign = Check.sign(Check.INT, Check.DOUBLE);
        refused("5 spot -1", x -> x.method(-1, 0, sign, 0));
        refused("5 spot 12", x -> x.method(12, 0, sign, 0));
        refused("5 type not there", x -> x.method(Check.methodSpot(0, 4), 0, sign, 0));
        refused("5 name 3", x -> x.method(spot, 3, sign, 0));
        refused("5 sign 16", x -> x.method(spot, 0, 16, 0));
        refused("5 sign -1", x -> x.method(spot, 0, -1, 0));
        refused("5 flags 16", x -> x.method(spot, 0, sign, 16));
        refused("5 abstract and static", x -> x.method(spot, 0, sign, ApiCompare.ABSTRACT | ApiCompare.STATIC));
        refused("5 abstract and final", x -> x.method(spot, 0, sign, ApiCompare.ABSTRACT | ApiCompare.FINAL));
        refused("5 abstract and hidden", x -> x.method(spot, 0, sign, ApiCompare.ABSTRACT | ApiCompare.HIDDEN));
    }

    private static void promise6Cut() {
        refused("6 version 2", x -> x.cut(2, 2, 0, Check.FIELD));
        refused("6 type 6", x -> x.cut(0, 6, 0, Check.FIELD));
        refused("6 name 4", x -> x.cut(0, 2, 4, Check.FIELD));
        refused("6 parameter 5", x -> x.cut(0, 2, 0, 5));
        refused("6 parameter -1", x -> x.cut(0, 2, 0, -1));
        refused("6 no such field", x -> x.cut(0, 2, 2, Check.FIELD));
        refused("6 no such method", x -> x.cut(0, 2, 0, Check.LONG));
        refused("6 a field of the super", x -> x.cut(0, 3, 0, Check.FIELD));
        refused("6 a method of the super", x -> x.cut(0, 3, 0, Check.INT));
        refused("6 a method of an interface", x -> x.cut(0, 2, 1, Check.NONE));
    }

    private static void promise8Use() {
        refused("8 kind -1", x -> x.use(-1, 0, 0, 0));
        refused("8 kind 7", x -> x.use(7, 0, 0, 0));
        refused("8 type 6", x -> x.use(Check.NEW, 6, 0, 0));
        refused("8 name 4", x -> x.use(Check.READ, 0, 4, 0));
        refused("8 a method's name 3", x -> x.use(Check.CALL, 0, 3, 0));
        refused("8 argument 4", x -> x.use(Check.CALL, 0, 0, 4));
        refused("8 parameter -1", x -> x.use(Check.OVERRIDE, 0, 0, -1));
    }

    private static void promise8Full() {
        ApiCompare full = prepared();
        full.use(Check.EXTEND, 0, 0, 0);
        ApiCompare same = prepared();
        same.use(Check.EXTEND, 0, 0, 0);
        for (int kind = 0; kind < 7; kind++) {
            check.due("8 full, kind " + kind, full.use(kind, 5, 2, 3), ApiCompare.FULL);
        }
        check.due("8 full changes nothing", Snapshot.of(full), Snapshot.of(same));
    }

    /** Twice the same answers of one object: what one call leaves behind must not reach the next one. */
    private static void askingChangesNothing() {
        ApiCompare x = prepared();
        check.due("two snapshots are not too many calls", 2 * Snapshot.MOST_CALLS + 40 <= 512, true);
        String first = Snapshot.of(x);
        check.due("asked again", Snapshot.of(x), first);
    }

    private static void wrongQuestionsChangeNothing() {
        refused("9 use 15 of fifteen", x -> x.compile(15, 0));
        refused("9 version 2", x -> x.compile(0, 2));
        refused("10 use 15 of fifteen", x -> x.link(15));
        refused("11 use 15 of fifteen", x -> x.recompile(15));
        changesNothing("12 use 15 of fifteen", x -> (int) x.value(15, 0), 0);
        refused("15 k 16", x -> x.broken(16));
        refused("16 type 6", x -> x.differ(6));
        changesNothing("17 type 6", x -> x.under(0, 6, 6) ? 1 : 0, 0);
        refused("18 what 4", x -> x.count(0, 4));
    }

    private static void sees(String what, Call call) {
        ApiCompare x = prepared();
        check.due(what, call.answer(x), 0);
        check.due(what + " is seen", Snapshot.of(x).equals(Snapshot.of(prepared())), false);
    }

    /** Else a snapshot that always is the same would let everything pass. */
    private static void theSnapshotSeesWhatIsTold() {
        sees("2 a type", x -> x.type(0, 2, ApiCompare.HIDDEN, 6, 0));
        sees("3 drop", x -> x.drop(0, 3));
        sees("4 a field", x -> x.field(Check.fieldSpot(0, 2, Check.DOUBLE_FIELD), 0, Check.FIXED_VALUE, 9));
        sees("5 a method", x -> x.method(Check.methodSpot(0, 2), 0, Check.sign(Check.INT, Check.DOUBLE), 0));
        sees("6 cut", x -> x.cut(0, 2, 0, Check.FIELD));
        sees("7 copy", ApiCompare::copy);
    }
}
