/** Promise 7: variable. */
public final class Promise07Test {
    public static void main(String[] args) {
        Due due = new Due("Promise07Test");
        TypeLoom x = new TypeLoom();
        due.is("variable(false, 1) without constructors", x.variable(false, 1), TypeLoom.NONE);
        x.constructor(0, 0);
        x.constructor(0, 1);
        x.constructor(0, 2);
        x.constructor(1, 2);
        due.is("variable(false, 0)", x.variable(false, 0), 0);
        x.level(4);
        due.is("variable(true, 0)", x.variable(true, 0), 1);
        due.is("variable(false, 7)", x.variable(false, 7), 2);
        due.is("variable(true, 6)", x.variable(true, 6), 3);
        due.is("variable(true, 7)", x.variable(true, 7), TypeLoom.NONE);
        due.is("variable(true, 1)", x.variable(true, 1), TypeLoom.NONE);
        due.is("variable(false, 8)", x.variable(false, 8), TypeLoom.NONE);
        due.is("variable(false, 16)", x.variable(false, 16), TypeLoom.NONE);
        due.is("variable(false, 1 << 30)", x.variable(false, 1 << 30), TypeLoom.NONE);
        due.is("variable(false, -1)", x.variable(false, -1), TypeLoom.NONE);
        due.is("variable(false, MIN)", x.variable(false, Integer.MIN_VALUE), TypeLoom.NONE);
        due.is("variable(false, MAX)", x.variable(false, Integer.MAX_VALUE), TypeLoom.NONE);
        due.is("count(1)", x.count(1), 4);
        int[][] told = {{0, 0, 0}, {4, 1, 0}, {4, 0, 7}, {4, 1, 6}};
        for (int t = 0; t < 4; t++) {
            due.is("look(" + t + ", 0, 0)", x.look(t, 0L, 0), 0);
            due.is("look(" + t + ", 0, 4)", x.look(t, 0L, 4), told[t][0]);
            due.is("look(" + t + ", 0, 3)", x.look(t, 0L, 3), told[t][1]);
            due.is("look(" + t + ", 0, 5)", x.look(t, 0L, 5), told[t][2]);
        }
        due.is("same(0, 0, 1, 0)", x.same(0, 0L, 1, 0L), false);
        for (int c = 4; c < 31; c++) {
            x.constructor(0, 1);
        }
        due.is("variable(true, 1 << 30)", x.variable(true, 1 << 30), 4);
        due.is("variable(false, all without arguments)", x.variable(false, Integer.MAX_VALUE - 8), 5);
        due.is("look(5, 0, 5)", x.look(5, 0L, 5), Integer.MAX_VALUE - 8);
        due.end();
    }
}
