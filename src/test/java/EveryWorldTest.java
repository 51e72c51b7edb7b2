import java.util.ArrayList;
import java.util.List;

/**
 * Every small world, each answered by the program and by the model: one type with one member in both versions, and
 * four types that name one another in every way that they may, with a member in any of them.
 */
public final class EveryWorldTest {
    private static final int SHAPED = 4;
    private static final int ALIKE = 1;
    private static final Check check = new Check();

    private final ApiCompare x = new ApiCompare();
    private final Model model = new Model();

    public static void main(String[] args) {
        everyPair(everyField(), true, Check.READ, Check.WRITE);
        everyPair(everyMethod(), false, Check.CALL, Check.OVERRIDE);
        everyShape(new ArrayList<>());
        check.end();
    }

    private record Shape(int flags, int superType, int interfaces) {
    }

    /** A field of that kind, or a method with that answer as its kind. */
    private record Member(int kind, int flags, int v) {
    }

    /** What a version may say of the class or interface 0; null says that it is not there. */
    private static List<Shape> everyType() {
        List<Shape> all = new ArrayList<>();
        all.add(null);
        for (int flags = 0; flags < 16; flags++) {
            boolean finalInterface = (flags & ApiCompare.INTERFACE) != 0 && (flags & ApiCompare.FINAL) != 0;
            if (!finalInterface) {
                all.add(new Shape(flags, Check.NO_SUPER, 0));
            }
        }
        return all;
    }

    /** What a version may say of one method; null says that it is not there. */
    private static List<Member> everyMethod() {
        List<Member> all = new ArrayList<>();
        all.add(null);
        for (int answer = Check.NONE; answer <= Check.INT; answer++) {
            for (int flags = 0; flags < 16; flags++) {
                if ((flags & ApiCompare.ABSTRACT) == 0 || flags == ApiCompare.ABSTRACT) {
                    all.add(new Member(answer, flags, 0));
                }
            }
        }
        return all;
    }

    /** What a version may say of one field; null says that it is not there. */
    private static List<Member> everyField() {
        List<Member> all = new ArrayList<>();
        all.add(null);
        for (int kind = Check.INT_FIELD; kind <= Check.DOUBLE_FIELD; kind++) {
            for (int flags = 0; flags < 16; flags++) {
                if ((flags & ApiCompare.ABSTRACT) == 0) {
                    all.add(new Member(kind, flags, 0));
                }
            }
            for (int v = 1; v <= 2; v++) {
                all.add(new Member(kind, Check.FIXED_VALUE, v));
                all.add(new Member(kind, Check.FIXED_VALUE | ApiCompare.HIDDEN, v));
            }
        }
        return all;
    }

    /** Where a version has not the type, it has not the member either. */
    private static void everyPair(List<Member> members, boolean areFields, int firstKind, int lastKind) {
        List<Member> none = members.subList(0, 1);
        for (Shape old : everyType()) {
            for (Shape now : everyType()) {
                for (Member oldMember : old == null ? none : members) {
                    for (Member newMember : now == null ? none : members) {
                        EveryWorldTest world = new EveryWorldTest();
                        world.tellVersion(Check.OLD, old, oldMember, areFields);
                        world.tellVersion(Check.NOW, now, newMember, areFields);
                        world.tellUses(firstKind, lastKind, 0);
                        world.ask(old + " " + oldMember + " -> " + now + " " + newMember);
                    }
                }
            }
        }
    }

    private void tellVersion(int version, Shape shape, Member member, boolean isField) {
        if (shape != null) {
            tellType(version, 0, shape);
        }
        if (member != null && isField) {
            tellField(version, 0, member);
        } else if (member != null) {
            tellMethod(version, 0, 0, member);
        }
    }

    /** Adds one more type in every way that the shapes so far allow, until there are four. */
    private static void everyShape(List<Shape> shapes) {
        int type = shapes.size();
        if (type == SHAPED) {
            everyHolderOfMembers(shapes);
            return;
        }
        for (int interfaces = 0; interfaces < 1 << type; interfaces++) {
            if (!areInterfaces(shapes, interfaces)) {
                continue;
            }
            everyShapeWith(shapes, new Shape(ApiCompare.INTERFACE, Check.NO_SUPER, interfaces));
            everyShapeWith(shapes, new Shape(0, Check.NO_SUPER, interfaces));
            for (int above = 0; above < type; above++) {
                if (shapes.get(above).flags() == 0) {
                    everyShapeWith(shapes, new Shape(0, above, interfaces));
                }
            }
        }
    }

    private static void everyShapeWith(List<Shape> shapes, Shape last) {
        List<Shape> longer = new ArrayList<>(shapes);
        longer.add(last);
        everyShape(longer);
    }

    private static boolean areInterfaces(List<Shape> shapes, int set) {
        for (int i = 0; i < shapes.size(); i++) {
            if ((set & 1 << i) != 0 && shapes.get(i).flags() != ApiCompare.INTERFACE) {
                return false;
            }
        }
        return true;
    }

    private static void everyHolderOfMembers(List<Shape> shapes) {
        for (int holders = 0; holders < 1 << SHAPED; holders++) {
            EveryWorldTest world = new EveryWorldTest();
            world.tellShapes(shapes, holders);
            world.tellUses(Check.READ, Check.CALL, SHAPED - 1);
            world.tellUse(Check.CALL, SHAPED - 1, ALIKE);
            world.askWithOneLess(shapes + " members in " + holders);
        }
    }

    /** Each member tells its type, a field by its value, a method by its answer; but one method is alike in all. */
    private void tellShapes(List<Shape> shapes, int holders) {
        for (int type = 0; type < SHAPED; type++) {
            tellType(Check.OLD, type, shapes.get(type));
            if ((holders & 1 << type) != 0) {
                tellField(Check.OLD, type, new Member(type % 2, Check.FIXED_VALUE, 1 + type));
                tellMethod(Check.OLD, type, 0, new Member(type, 0, 0));
                tellMethod(Check.OLD, type, ALIKE, new Member(Check.NONE, 0, 0));
            }
        }
    }

    /** Asks with both versions alike, and with the members of each type gone or otherwise in the new one. */
    private void askWithOneLess(String world) {
        for (int type = 0; type < SHAPED; type++) {
            tellCopy();
            ask(world);
            for (int other = 0; other < SHAPED; other++) {
                check.due("under " + world, x.under(Check.OLD, type, other), model.under(Check.OLD, type, other));
            }
            cutOfNew(type, 0, Check.FIELD);
            cutOfNew(type, 0, Check.NONE);
            cutOfNew(type, ALIKE, Check.NONE);
            ask(world + " without those of " + type);
            tellMethod(Check.NOW, type, 0, new Member(SHAPED - 1, 0, 0));
            tellMethod(Check.NOW, type, ALIKE, new Member(Check.NONE, 0, 0));
            tellField(Check.NOW, type, new Member(0, Check.FIXED_VALUE, SHAPED));
            ask(world + " with others in " + type);
        }
    }

    private void cutOfNew(int type, int name, int parameter) {
        check.due("cut", x.cut(Check.NOW, type, name, parameter), model.cut(Check.NOW, type, name, parameter));
    }

    private void tellCopy() {
        check.due("copy", x.copy(), model.copy());
    }

    private void tellType(int version, int type, Shape shape) {
        x.type(version, type, shape.flags(), shape.superType(), shape.interfaces());
        check.due("type " + shape,
                model.type(version, type, shape.flags(), shape.superType(), shape.interfaces()), 0);
    }

    private void tellField(int version, int type, Member member) {
        int spot = Check.fieldSpot(version, type, member.kind());
        x.field(spot, 0, member.flags(), member.v());
        check.due("field " + member, model.field(spot, 0, member.flags(), member.v()), 0);
    }

    private void tellMethod(int version, int type, int name, Member member) {
        int spot = Check.methodSpot(version, type);
        int sign = Check.sign(Check.NONE, member.kind());
        x.method(spot, name, sign, member.flags());
        check.due("method " + member, model.method(spot, name, sign, member.flags()), 0);
    }

    private void tellUses(int firstKind, int lastKind, int type) {
        for (int kind = firstKind; kind <= lastKind; kind++) {
            tellUse(kind, type, 0);
        }
    }

    private void tellUse(int kind, int type, int name) {
        check.due("use", x.use(kind, type, name, Check.NONE), model.use(kind, type, name, Check.NONE));
    }

    /** The first world with a wrong answer is told, the others after it are not: there may be a million. */
    private void ask(String world) {
        if (!check.isClean()) {
            return;
        }
        for (int use = 0; use < model.count(0, 3); use++) {
            check.due("compile(" + use + ", 0) " + world, x.compile(use, 0), model.compile(use, 0));
            check.due("compile(" + use + ", 1) " + world, x.compile(use, 1), model.compile(use, 1));
            check.due("link(" + use + ") " + world, x.link(use), model.link(use));
            check.due("recompile(" + use + ") " + world, x.recompile(use), model.recompile(use));
            check.due("value(" + use + ", 0) " + world, x.value(use, 0), model.value(use, 0));
            check.due("value(" + use + ", 1) " + world, x.value(use, 1), model.value(use, 1));
        }
        check.due("share() " + world, x.share(), model.share());
        check.due("breaking() " + world, x.breaking(), model.breaking());
        check.due("broken(0) " + world, x.broken(0), model.broken(0));
        check.due("differ(0) " + world, x.differ(0), model.differ(0));
    }
}
