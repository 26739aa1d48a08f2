/** Promise 9: level. */
public final class Promise09Test {
    public static void main(String[] args) {
        Due due = new Due("Promise09Test");
        TypeLoom x = new TypeLoom();
        due.is("level(100)", x.level(100), 0);
        due.is("level(101)", x.level(101), TypeLoom.NONE);
        due.is("level(-1)", x.level(-1), TypeLoom.NONE);
        due.is("level(MAX)", x.level(Integer.MAX_VALUE), TypeLoom.NONE);
        due.is("level(MIN)", x.level(Integer.MIN_VALUE), TypeLoom.NONE);
        due.is("count(8)", x.count(8), 100);
        due.is("level(3)", x.level(3), 100);
        due.is("level(3)", x.level(3), 3);
        x.variable(false, 0);
        x.rigid(false);
        x.record(true);
        due.is("level(0)", x.level(0), 3);
        for (int t = 0; t < 3; t++) {
            due.is("look(" + t + ", 0, 4)", x.look(t, 0L, 4), 3);
        }
        x.level(50);
        due.is("clear(0, 0)", x.clear(0, 0), true);
        due.is("count(8)", x.count(8), 0);
        due.end();
    }
}
