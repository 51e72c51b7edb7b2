import java.util.ArrayList;
import java.util.List;
import java.util.Map;
import java.util.Objects;
import java.util.Set;
import java.util.TreeMap;
import java.util.TreeSet;

/** The document once more, written as plainly as the Java library allows and without regard to room or speed. */
final class Model {
    private record Kind(int flags, int superType, Set<Integer> interfaces) {
        boolean is(int flag) {
            return (flags & flag) != 0;
        }
    }

    private record FieldKey(int type, int name) {
    }

    /** The value is null for what is no CONSTANT. */
    private record FieldData(int owner, boolean isDouble, int flags, Double value) {
        boolean is(int flag) {
            return (flags & flag) != 0;
        }
    }

    private record MethodKey(int type, int name, int parameter) {
    }

    private record MethodData(int owner, int parameter, int answer, int flags) {
        boolean is(int flag) {
            return (flags & flag) != 0;
        }
    }

    private record UseData(int kind, int type, int name, int argument) {
    }

    /** The text is what is compared; the rest is what linking has to know. */
    private record Bound(int error, String text, FieldData field, MethodData method, boolean ofInterface) {
    }

    private static final class Version {
        final Map<Integer, Kind> types = new TreeMap<>();
        final Map<FieldKey, FieldData> fields = new java.util.HashMap<>();
        final Map<MethodKey, MethodData> methods = new java.util.HashMap<>();

        boolean names(int type) {
            return types.values().stream().anyMatch(k -> k.superType() == type || k.interfaces().contains(type));
        }

        Set<Integer> supertypes(int type) {
            Set<Integer> all = new TreeSet<>();
            all.add(type);
            Kind kind = types.get(type);
            if (kind.superType() != 6) {
                all.addAll(supertypes(kind.superType()));
            }
            for (int each : kind.interfaces()) {
                all.addAll(supertypes(each));
            }
            return all;
        }

        FieldData find(int type, int name, Boolean isDouble) {
            FieldData own = fields.get(new FieldKey(type, name));
            if (own != null && (isDouble == null || own.isDouble() == isDouble)) {
                return own;
            }
            List<Integer> next = new ArrayList<>(types.get(type).interfaces());
            if (types.get(type).superType() != 6) {
                next.add(types.get(type).superType());
            }
            return next.stream().map(t -> find(t, name, isDouble)).filter(Objects::nonNull).findFirst().orElse(null);
        }

        MethodData find(int type, int name, int parameter, Integer answer) {
            List<Integer> order = new ArrayList<>();
            for (int t = type; t != 6; t = types.get(t).superType()) {
                order.add(t);
            }
            List<Integer> above = new ArrayList<>(supertypes(type));
            java.util.Collections.reverse(above);
            above.removeIf(t -> !types.get(t).is(ApiCompare.INTERFACE));
            order.addAll(above);
            for (int t : order) {
                MethodData own = methods.get(new MethodKey(t, name, parameter));
                if (own != null && (answer == null || own.answer() == answer)) {
                    return own;
                }
            }
            return null;
        }
    }

    private final Version[] versions = {new Version(), new Version()};
    private final List<UseData> uses = new ArrayList<>();

    private static boolean in(int number, int least, int greatest) {
        return least <= number && number <= greatest;
    }

    private boolean there(int version, int type) {
        return in(version, 0, 1) && versions[version].types.containsKey(type);
    }

    int type(int version, int type, int flags, int superType, int interfaces) {
        if (!in(version, 0, 1) || !in(type, 0, 5) || !in(flags, 0, 15) || !in(superType, 0, 6)) {
            return -1;
        }
        if (!in(interfaces, 0, 63)) {
            return -1;
        }
        Map<Integer, Kind> types = versions[version].types;
        boolean isInterface = flags % 2 == 1;
        if (isInterface && (superType != 6 || (flags & 4) != 0)) {
            return -1;
        }
        if (superType != 6 && (superType >= type || !types.containsKey(superType) || types.get(superType).is(1))) {
            return -1;
        }
        Set<Integer> named = new TreeSet<>();
        for (int i = 0; i < 6; i++) {
            if ((interfaces & 1 << i) != 0) {
                named.add(i);
                if (i >= type || !types.containsKey(i) || !types.get(i).is(1)) {
                    return -1;
                }
            }
        }
        Kind before = types.get(type);
        if (before != null && before.is(1) != isInterface && versions[version].names(type)) {
            return -1;
        }
        types.put(type, new Kind(flags, superType, named));
        return 0;
    }

    int drop(int version, int type) {
        if (!there(version, type) || versions[version].names(type)) {
            return -1;
        }
        versions[version].types.remove(type);
        versions[version].fields.keySet().removeIf(key -> key.type() == type);
        versions[version].methods.keySet().removeIf(key -> key.type() == type);
        return 0;
    }

    int field(int spot, int name, int flags, int v) {
        if (!in(spot, 0, 23) || !in(name, 0, 3) || !in(flags, 0, 31) || (flags & 2) != 0) {
            return -1;
        }
        if ((flags & 16) != 0 && ((flags & 1) == 0 || (flags & 4) == 0)) {
            return -1;
        }
        int version = spot >= 12 ? 1 : 0;
        int type = (spot - 12 * version) / 2;
        boolean isDouble = spot % 2 == 1;
        if (!there(version, type)) {
            return -1;
        }
        Double value = (flags & 16) == 0 ? null : Double.valueOf(isDouble ? v * 0.5 : v);
        versions[version].fields.put(new FieldKey(type, name), new FieldData(type, isDouble, flags, value));
        return 0;
    }

    int method(int spot, int name, int sign, int flags) {
        if (!in(spot, 0, 11) || !in(name, 0, 2) || !in(sign, 0, 15) || !in(flags, 0, 15)) {
            return -1;
        }
        if ((flags & 2) != 0 && (flags & (1 | 4 | 8)) != 0) {
            return -1;
        }
        int version = spot >= 6 ? 1 : 0;
        int type = spot - 6 * version;
        if (!there(version, type)) {
            return -1;
        }
        int parameter = sign / 4;
        MethodData told = new MethodData(type, parameter, sign - 4 * parameter, flags);
        versions[version].methods.put(new MethodKey(type, name, parameter), told);
        return 0;
    }

    int cut(int version, int type, int name, int parameter) {
        if (!in(version, 0, 1)) {
            return -1;
        }
        Object gone = parameter == 4
                ? versions[version].fields.remove(new FieldKey(type, name))
                : versions[version].methods.remove(new MethodKey(type, name, parameter));
        return gone == null ? -1 : 0;
    }

    int copy() {
        versions[1] = new Version();
        versions[1].types.putAll(versions[0].types);
        versions[1].fields.putAll(versions[0].fields);
        versions[1].methods.putAll(versions[0].methods);
        return 0;
    }

    int use(int kind, int type, int name, int argument) {
        boolean ofMethod = kind == 2 || kind == 3 || kind == 6;
        if (!in(kind, 0, 6) || !in(type, 0, 5) || !in(name, 0, ofMethod ? 2 : 3)) {
            return -1;
        }
        if (ofMethod && !in(argument, 0, 3)) {
            return -1;
        }
        if (uses.size() == 16) {
            return -2;
        }
        uses.add(new UseData(kind, type, name, argument));
        return uses.size() - 1;
    }

    private static Bound error(int error) {
        return new Bound(error, "", null, null, false);
    }

    private static final String[] TAKEN_BY = {"0", "123", "23", "3"};

    private Bound bound(UseData use, Version version) {
        Kind kind = version.types.get(use.type());
        if (kind == null || kind.is(8)) {
            return error(-3);
        }
        boolean isInterface = kind.is(1);
        if (use.kind() <= 1) {
            FieldData field = version.find(use.type(), use.name(), (Boolean) null);
            if (field == null || field.is(8)) {
                return error(-4);
            }
            if (use.kind() == 1 && field.is(4)) {
                return error(-5);
            }
            String text = field.is(16) ? "value " + field.value() : "static " + field.is(1);
            return new Bound(0, text + " double " + field.isDouble(), field, null, isInterface);
        }
        if (use.kind() <= 3) {
            for (char parameter : TAKEN_BY[use.argument()].toCharArray()) {
                MethodData method = version.find(use.type(), use.name(), parameter - '0', null);
                if (method != null && !method.is(8)) {
                    String text = method.parameter() + " " + method.answer() + " " + method.is(1) + " " + isInterface;
                    boolean wrong = use.kind() == 3 && !method.is(1);
                    return wrong ? error(-5) : new Bound(0, text, null, method, isInterface);
                }
            }
            return error(-4);
        }
        if (use.kind() == 4) {
            return kind.is(2) || kind.is(1) ? error(-5) : new Bound(0, "new", null, null, isInterface);
        }
        if (kind.is(4)) {
            return error(-5);
        }
        if (use.kind() == 5) {
            return new Bound(0, "extend " + isInterface, null, null, isInterface);
        }
        MethodData method = version.find(use.type(), use.name(), use.argument(), null);
        if (method == null || method.is(8)) {
            return error(-4);
        }
        boolean wrong = method.is(1) || method.is(4);
        return wrong ? error(-5) : new Bound(0, "override " + method.answer(), null, method, isInterface);
    }

    int compile(int use, int version) {
        if (!in(use, 0, uses.size() - 1) || !in(version, 0, 1)) {
            return -1;
        }
        return bound(uses.get(use), versions[version]).error();
    }

    int link(int use) {
        if (!in(use, 0, uses.size() - 1)) {
            return -1;
        }
        UseData data = uses.get(use);
        Bound bound = bound(data, versions[0]);
        if (bound.error() != 0) {
            return bound.error();
        }
        Kind now = versions[1].types.get(data.type());
        if (bound.field() != null && bound.field().is(16)) {
            FieldData field = now == null ? null : versions[1].find(data.type(), data.name(), (Boolean) null);
            boolean same = field != null && field.is(16) && field.isDouble() == bound.field().isDouble()
                    && field.value().equals(bound.field().value());
            return same ? 0 : 2;
        }
        if (now == null) {
            return -6;
        }
        return now.is(8) ? -8 : linked(data, bound, now);
    }

    private int linked(UseData use, Bound bound, Kind now) {
        if (use.kind() <= 1) {
            FieldData field = versions[1].find(use.type(), use.name(), Boolean.valueOf(bound.field().isDouble()));
            if (field == null) {
                return -7;
            }
            if (field.is(8) || use.kind() == 1 && field.is(4)) {
                return -8;
            }
            return field.is(1) != bound.field().is(1) ? -9 : 0;
        }
        if (use.kind() == 4) {
            return now.is(2) || now.is(1) ? -9 : 0;
        }
        if (now.is(1) != bound.ofInterface()) {
            return -9;
        }
        if (use.kind() <= 3) {
            MethodData was = bound.method();
            MethodData method = versions[1].find(use.type(), use.name(), was.parameter(), was.answer());
            if (method == null) {
                return -7;
            }
            if (method.is(8)) {
                return -8;
            }
            return method.is(1) != was.is(1) ? -9 : method.owner() != was.owner() ? 1 : 0;
        }
        if (now.is(4)) {
            return -9;
        }
        if (use.kind() == 5) {
            return 0;
        }
        MethodData method = versions[1].find(use.type(), use.name(), use.argument(), null);
        if (method != null && !method.is(8) && (method.is(4) || method.is(1))) {
            return -9;
        }
        return method != null && !method.is(8) && method.answer() == bound.method().answer() ? 0 : 3;
    }

    int recompile(int use) {
        if (!in(use, 0, uses.size() - 1)) {
            return -1;
        }
        Bound old = bound(uses.get(use), versions[0]);
        Bound now = bound(uses.get(use), versions[1]);
        if (old.error() != 0) {
            return old.error();
        }
        return now.error() != 0 ? now.error() : old.text().equals(now.text()) ? 0 : 1;
    }

    double value(int use, int version) {
        if (!in(use, 0, uses.size() - 1) || !in(version, 0, 1)) {
            return 0.0;
        }
        FieldData field = bound(uses.get(use), versions[version]).field();
        return field == null || field.value() == null ? 0.0 : field.value();
    }

    private List<Integer> compiled() {
        List<Integer> found = new ArrayList<>();
        for (int i = 0; i < uses.size(); i++) {
            if (compile(i, 0) == 0) {
                found.add(i);
            }
        }
        return found;
    }

    private List<Integer> breakers() {
        List<Integer> found = compiled();
        found.removeIf(i -> link(i) >= 0);
        return found;
    }

    double share() {
        int all = compiled().size();
        return all == 0 ? 1.0 : (double) (all - breakers().size()) / all;
    }

    int breaking() {
        return breakers().size();
    }

    int broken(int k) {
        List<Integer> all = breakers();
        return in(k, 0, all.size() - 1) ? all.get(k) : -1;
    }

    int differ(int type) {
        if (!in(type, 0, 5)) {
            return -1;
        }
        Kind old = versions[0].types.get(type);
        Kind now = versions[1].types.get(type);
        if (old == null || now == null) {
            return old == null && now == null ? -2 : now == null ? -3 : -4;
        }
        int differences = old.flags() == now.flags() ? 0 : 1;
        differences += old.superType() == now.superType() ? 0 : 1;
        differences += old.interfaces().equals(now.interfaces()) ? 0 : 1;
        for (int name = 0; name < 4; name++) {
            FieldKey field = new FieldKey(type, name);
            differences += Objects.equals(versions[0].fields.get(field), versions[1].fields.get(field)) ? 0 : 1;
            for (int parameter = 0; parameter < 4; parameter++) {
                MethodKey key = new MethodKey(type, name, parameter);
                differences += Objects.equals(versions[0].methods.get(key), versions[1].methods.get(key)) ? 0 : 1;
            }
        }
        return differences;
    }

    boolean under(int version, int type, int other) {
        return there(version, type) && there(version, other) && versions[version].supertypes(type).contains(other);
    }

    int count(int version, int what) {
        if (!in(version, 0, 1) || !in(what, 0, 3)) {
            return -1;
        }
        Version counted = versions[version];
        int[] counts = {counted.types.size(), counted.fields.size(), counted.methods.size(), uses.size()};
        return counts[what];
    }
}
