import java.util.Map;
import java.util.Random;
import java.util.TreeMap;

/** Long mixed runs of calls, each answered by the program and by the model; the seeds are fixed. */
public final class ModelTest {
    private static final int RUNS = 3000;
    private static final int CALLS = 512;
    private static final int[] ODD = {-1, 7, 16, 24, 32, 64, Integer.MIN_VALUE, Integer.MAX_VALUE};
    private static final Check check = new Check();
    private static final Map<Integer, Integer> fates = new TreeMap<>();
    private static final Map<Integer, Integer> anew = new TreeMap<>();

    private final Random random;
    private final ApiCompare x = new ApiCompare();
    private final Model model = new Model();
    private final StringBuilder told = new StringBuilder();

    private ModelTest(long seed) {
        random = new Random(seed);
    }

    public static void main(String[] args) {
        for (int run = 0; run < RUNS && check.isClean(); run++) {
            new ModelTest(run).run();
        }
        System.out.println("link came to " + fates);
        System.out.println("recompile came to " + anew);
        check.due("each fate was seen", fates.keySet().toString(), "[-9, -8, -7, -6, -5, -4, -3, -1, 0, 1, 2, 3]");
        check.due("each answer of recompile", anew.keySet().toString(), "[-5, -4, -3, -1, 0, 1]");
        check.end();
    }

    private void run() {
        int calls = 0;
        if (random.nextInt(8) != 0) {
            calls += fillOldVersion();
            calls += copy();
        }
        while (calls < CALLS && check.isClean()) {
            calls += random.nextInt(3) == 0 ? tell(random.nextInt(12) == 0 ? 0 : 1) : ask();
        }
        if (!check.isClean()) {
            System.out.println(told);
        }
    }

    /** Most types, members and uses there, so that many uses can be compiled. */
    private int fillOldVersion() {
        int calls = 0;
        for (int type = 0; type < 6; type++) {
            tellType(0, type);
            calls++;
        }
        for (int i = 0; i < 40; i++) {
            tellMethod(random.nextInt(6));
            tellField(random.nextInt(12));
            calls += 2;
        }
        for (int i = 0; i < 12; i++) {
            tellUse(2 + random.nextInt(4));
            calls++;
        }
        return calls;
    }

    /** A number below the bound, or now and then an odd one. */
    private int below(int bound) {
        return random.nextInt(60) == 0 ? ODD[random.nextInt(ODD.length)] : random.nextInt(bound);
    }

    private int number() {
        return random.nextInt(20) == 0 ? random.nextInt() : random.nextInt(3);
    }

    /** Flags of which most are not set, so that most members can be used. */
    private int flags(int bound) {
        int picked = random.nextInt(3) == 0 ? random.nextInt(bound) : 0;
        return random.nextInt(60) == 0 ? below(bound) : picked & ~(random.nextInt(2) == 0 ? 8 : 0);
    }

    private int copy() {
        due("copy()", x.copy(), model.copy());
        return 1;
    }

    private int tell(int version) {
        int type = below(6);
        switch (random.nextInt(10)) {
            case 0: case 1: case 2:
                tellType(version, type);
                break;
            case 3: case 4:
                tellField(12 * version + 2 * type + random.nextInt(2));
                break;
            case 5: case 6:
                tellMethod(6 * version + type);
                break;
            case 7:
                tellUse(type);
                break;
            case 8:
                cutMember(version, type);
                break;
            default:
                dropOrCopy(version, type);
                break;
        }
        return 1;
    }

    /** Mostly interfaces 0 to 2 and classes 3 to 5 that name one another as they may. */
    private void tellType(int version, int type) {
        if (random.nextInt(6) == 0) {
            tellType(version, type, flags(16), below(7), random.nextInt(2) == 0 ? 0 : below(64));
        } else if (type < 3) {
            tellType(version, type, 1 | flags(16) & 8, 6, random.nextInt(8) & (1 << Math.max(type, 0)) - 1);
        } else {
            int above = random.nextInt(3) == 0 ? 6 : 3 + random.nextInt(3);
            tellType(version, type, flags(16) & ~1, above < type ? above : 6, random.nextInt(8));
        }
    }

    private void tellType(int version, int type, int flags, int above, int interfaces) {
        due("type(" + version + ", " + type + ", " + flags + ", " + above + ", " + interfaces + ")",
                x.type(version, type, flags, above, interfaces), model.type(version, type, flags, above, interfaces));
    }

    private void tellField(int spot) {
        int name = below(4);
        int told = random.nextInt(3) == 0 ? 21 : flags(32);
        int v = number();
        due("field(" + spot + ", " + name + ", " + told + ", " + v + ")",
                x.field(spot, name, told, v), model.field(spot, name, told, v));
    }

    private void tellMethod(int spot) {
        int name = below(3);
        int sign = random.nextInt(2) == 0 ? 4 * random.nextInt(4) : below(16);
        int told = flags(16);
        due("method(" + spot + ", " + name + ", " + sign + ", " + told + ")",
                x.method(spot, name, sign, told), model.method(spot, name, sign, told));
    }

    private void tellUse(int type) {
        int kind = below(7);
        int name = below(4);
        int argument = below(4);
        due("use(" + kind + ", " + type + ", " + name + ", " + argument + ")",
                x.use(kind, type, name, argument), model.use(kind, type, name, argument));
    }

    private void cutMember(int version, int type) {
        int name = below(4);
        int parameter = below(6);
        due("cut(" + version + ", " + type + ", " + name + ", " + parameter + ")",
                x.cut(version, type, name, parameter), model.cut(version, type, name, parameter));
    }

    private void dropOrCopy(int version, int type) {
        if (random.nextInt(2) == 0) {
            copy();
            return;
        }
        due("drop(" + version + ", " + type + ")", x.drop(version, type), model.drop(version, type));
    }

    private int ask() {
        int use = below(16);
        int version = below(2);
        switch (random.nextInt(12)) {
            case 0: case 1: case 2:
                fates.merge(model.link(use), 1, Integer::sum);
                due("link(" + use + ")", x.link(use), model.link(use));
                break;
            case 3: case 4:
                anew.merge(model.recompile(use), 1, Integer::sum);
                due("recompile(" + use + ")", x.recompile(use), model.recompile(use));
                break;
            case 5:
                due("compile(" + use + ", " + version + ")", x.compile(use, version), model.compile(use, version));
                break;
            case 6:
                due("value(" + use + ", " + version + ")", x.value(use, version), model.value(use, version));
                break;
            case 7:
                due("share()", x.share(), model.share());
                break;
            default:
                askMore(version);
                break;
        }
        return 1;
    }

    private void askMore(int version) {
        int number = below(7);
        int other = below(6);
        switch (random.nextInt(5)) {
            case 0:
                due("breaking()", x.breaking(), model.breaking());
                break;
            case 1:
                due("broken(" + number + ")", x.broken(number), model.broken(number));
                break;
            case 2:
                due("differ(" + number + ")", x.differ(number), model.differ(number));
                break;
            case 3:
                due("under(" + version + ", " + number + ", " + other + ")",
                        x.under(version, number, other) ? 1 : 0, model.under(version, number, other) ? 1 : 0);
                break;
            default:
                due("count(" + version + ", " + other + ")", x.count(version, other), model.count(version, other));
                break;
        }
    }

    private void due(String call, double got, double want) {
        told.append(call).append(" = ").append(got).append('\n');
        check.due(call, got, want);
    }
}
