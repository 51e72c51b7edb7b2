/** All that an object answers when it is asked, as one text, so that two states can be compared. */
final class Snapshot {
    /** So many calls does one snapshot take of the 512 that an object has, with all 16 uses there. */
    static final int MOST_CALLS = 7 + 6 + 72 + 16 * 6 + 18;

    private Snapshot() {
    }

    static String of(ApiCompare x) {
        StringBuilder text = new StringBuilder();
        int uses = x.count(0, 3);
        text.append("uses ").append(uses);
        for (int version = 0; version < 2; version++) {
            addVersion(text, x, version);
        }
        for (int type = 0; type < 6; type++) {
            text.append(" differ ").append(x.differ(type));
        }
        for (int use = 0; use < uses; use++) {
            addUse(text, x, use);
        }
        addBroken(text, x);
        return text.toString();
    }

    private static void addVersion(StringBuilder text, ApiCompare x, int version) {
        text.append(" version ").append(version);
        for (int what = 0; what < 3; what++) {
            text.append(' ').append(x.count(version, what));
        }
        for (int type = 0; type < 6; type++) {
            for (int other = 0; other < 6; other++) {
                text.append(x.under(version, type, other) ? " y" : " n");
            }
        }
    }

    private static void addUse(StringBuilder text, ApiCompare x, int use) {
        text.append(" use ").append(use).append(": ");
        text.append(x.compile(use, 0)).append(' ').append(x.compile(use, 1)).append(' ');
        text.append(x.value(use, 0)).append(' ').append(x.value(use, 1)).append(' ');
        text.append(x.link(use)).append(' ').append(x.recompile(use));
    }

    private static void addBroken(StringBuilder text, ApiCompare x) {
        text.append(" share ").append(x.share());
        int breaking = x.breaking();
        text.append(" breaking ").append(breaking);
        for (int k = 0; k < breaking; k++) {
            text.append(' ').append(x.broken(k));
        }
    }
}
