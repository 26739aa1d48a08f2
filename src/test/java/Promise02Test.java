/** Promise 2: constructor. */
public final class Promise02Test {
    public static void main(String[] args) {
        Due due = new Due("Promise02Test");
        TypeLoom x = new TypeLoom();
        int made = 0;
        for (int arity = 0; arity <= 8; arity++) {
            for (int equality = 0; equality <= 2; equality++) {
                due.is("constructor(" + arity + ", " + equality + ")", x.constructor(arity, equality), made);
                made++;
            }
        }
        int[][] refused = {{-1, 0}, {9, 0}, {0, -1}, {0, 3}, {Integer.MAX_VALUE, 1}, {Integer.MIN_VALUE, 1},
            {1, Integer.MAX_VALUE}, {1, Integer.MIN_VALUE}};
        for (int[] r : refused) {
            due.is("constructor(" + r[0] + ", " + r[1] + ")", x.constructor(r[0], r[1]), TypeLoom.NONE);
        }
        due.is("count(0)", x.count(0), made);
        // What was told is what holds: arity 8, and each equality.
        due.is("rigid(false)", x.rigid(false), 0);
        for (int i = 0; i < 8; i++) {
            due.is("built(26) of " + i, x.built(26), TypeLoom.NONE);
            x.push(-1, 0);
        }
        due.is("built(26)", x.built(26), 1);
        due.is("look(1, 0, 3)", x.look(1, 0L, 3), 1);
        for (int c = 0; c <= 2; c++) {
            int t = x.built(c);
            due.is("look(" + t + ", 0, 3)", x.look(t, 0L, 3), c == 0 ? 0 : 1);
        }
        due.end();
    }
}
