/** The example of README.md, call by call. */
public final class ReadmeTest {
    public static void main(String[] args) {
        Check check = new Check();
        ApiCompare x = new ApiCompare();
        check.due("type", x.type(0, 0, 0, 6, 0), 0);
        check.due("method", x.method(0, 1, 4 * 1 + 2, 0), 0);
        check.due("field", x.field(0, 3, 21, 7), 0);
        int call = x.use(2, 0, 1, 1);
        check.due("the first use", call, 0);
        int read = x.use(0, 0, 3, 0);
        check.due("the second use", read, 1);
        check.due("copy", x.copy(), 0);
        check.due("cut", x.cut(1, 0, 1, 1), 0);
        check.due("method in the new version", x.method(6, 1, 4 * 2 + 2, 0), 0);
        check.due("field in the new version", x.field(12, 3, 21, 8), 0);
        check.due("link of the call", x.link(call), ApiCompare.LOST_MEMBER);
        check.due("recompile of the call", x.recompile(call), 1);
        check.due("link of the read", x.link(read), ApiCompare.STALE);
        check.due("value of the read", x.value(read, 1), 8.0);
        check.due("share", x.share(), 0.5);
        check.due("broken", x.broken(0), 0);
        check.due("differ", x.differ(0), 3);
        check.end();
    }
}
