/** Promise 3: push. */
public final class Promise03Test {
    public static void main(String[] args) {
        Due due = new Due("Promise03Test");
        arguments(due);
        fields(due);
        full(due);
        due.end();
    }

    private static void arguments(Due due) {
        TypeLoom x = new TypeLoom();
        due.is("push(-1, 0) without types", x.push(-1, 0), TypeLoom.NONE);
        x.rigid(false);
        due.is("push(-1, 0)", x.push(-1, 0), 1);
        due.is("push(-1, 0) again", x.push(-1, 0), 2);
        due.is("push(-1, 1)", x.push(-1, 1), TypeLoom.NONE);
        due.is("push(-1, -1)", x.push(-1, -1), TypeLoom.NONE);
        due.is("push(-2, 0)", x.push(-2, 0), TypeLoom.NONE);
        due.is("push(-1, MAX)", x.push(-1, Integer.MAX_VALUE), TypeLoom.NONE);
        due.is("push(-1, MIN)", x.push(-1, Integer.MIN_VALUE), TypeLoom.NONE);
        due.is("push(MIN, 0)", x.push(Integer.MIN_VALUE, 0), TypeLoom.NONE);
        due.is("push(MAX, 0)", x.push(Integer.MAX_VALUE, 0), TypeLoom.NONE);
        due.is("count(2)", x.count(2), 2);
    }

    private static void fields(Due due) {
        TypeLoom x = new TypeLoom();
        x.rigid(false);
        due.is("push(32767, 0)", x.push(32767, 0), 1);
        due.is("push(32768, 0)", x.push(32768, 0), TypeLoom.NONE);
        due.is("push(0, 0)", x.push(0, 0), 2);
        due.is("push(0, 0) again", x.push(0, 0), TypeLoom.NONE);
        due.is("push(32767, 0) again", x.push(32767, 0), TypeLoom.NONE);
        due.is("push(-1, 0) among fields", x.push(-1, 0), 3);
        due.is("built(0)", x.built(0), TypeLoom.NONE);
        due.is("record(false)", x.record(false), TypeLoom.NONE);
        x.function(0, 0);
        x.unify(0, 0);
        x.level(3);
        x.scheme(0);
        x.instance(0);
        due.is("count(2)", x.count(2), 3);
        due.is("clear(0, 0)", x.clear(0, 0), true);
        due.is("count(2)", x.count(2), 0);
        x.rigid(false);
        due.is("push(0, 0) after clear", x.push(0, 0), 1);
    }

    private static void full(Due due) {
        TypeLoom x = new TypeLoom();
        x.rigid(false);
        for (int i = 0; i < 128; i++) {
            due.is("push(" + i * 7 % 128 + ", 0)", x.push(i * 7 % 128, 0), i + 1);
        }
        due.is("push(128, 0)", x.push(128, 0), TypeLoom.FULL);
        due.is("push(-1, 0)", x.push(-1, 0), TypeLoom.FULL);
        due.is("push(5, 0) that is pushed", x.push(5, 0), TypeLoom.NONE);
        due.is("push(128, 1)", x.push(128, 1), TypeLoom.NONE);
        due.is("count(2)", x.count(2), 128);
        due.is("record(false)", x.record(false), 1);
        due.is("look(1, 0, 2)", x.look(1, 0L, 2), 128);
        for (int i = 0; i < 128; i++) {
            due.is("label(1, 0, " + i + ")", x.label(1, 0L, i), i);
        }
    }
}
