/**
 * The limits that 512 calls can't pass: 2,048 constructors, 2,048 schemes, 512 rows made by record().
 * What an object answers after its 512th call is free; this program keeps to the document's limits there
 * as well, and this test sees to it. Up to the 512th call nothing is full.
 */
public final class BeyondTest {
    private static final Due DUE = new Due("BeyondTest");

    public static void main(String[] args) {
        upTo512Calls();
        constructors();
        rows();
        schemes();
        DUE.end();
    }

    private static void upTo512Calls() {
        TypeLoom x = new TypeLoom();
        TypeLoom y = new TypeLoom();
        TypeLoom z = new TypeLoom();
        for (int i = 0; i < 512; i++) {
            DUE.is("constructor(8, 2)", x.constructor(8, 2), i);
            DUE.is("record(true)", y.record(true), i);
            DUE.is("scheme(0)", i == 0 ? z.record(false) : z.scheme(0), i == 0 ? 0 : i - 1);
        }
    }

    private static void constructors() {
        TypeLoom x = new TypeLoom();
        x.rigid(true);
        for (int c = 0; c < 2048; c++) {
            DUE.is("constructor(1, 1)", x.constructor(c == 2047 ? 1 : 0, 1), c);
        }
        DUE.is("constructor(0, 1), full", x.constructor(0, 1), TypeLoom.FULL);
        DUE.is("constructor(8, 0), full", x.constructor(8, 0), TypeLoom.FULL);
        DUE.is("constructor(9, 0), though full", x.constructor(9, 0), TypeLoom.NONE);
        DUE.is("constructor(0, 3), though full", x.constructor(0, 3), TypeLoom.NONE);
        DUE.is("count(0)", x.count(0), 2048);
        DUE.is("built(2048)", x.built(2048), TypeLoom.NONE);
        x.push(-1, 0);
        DUE.is("built(2047)", x.built(2047), 1);
        DUE.is("look(1, 0, 1)", x.look(1, 0L, 1), 2047);
        DUE.is("clear(2049, 0)", x.clear(2049, 0), false);
        DUE.is("clear(2048, 0)", x.clear(2048, 0), true);
        DUE.is("constructor(0, 1), still full", x.constructor(0, 1), TypeLoom.FULL);
        DUE.is("clear(2047, 0)", x.clear(2047, 0), true);
        DUE.is("constructor(8, 2)", x.constructor(8, 2), 2047);
    }

    private static void rows() {
        TypeLoom x = new TypeLoom();
        x.rigid(true);
        for (int i = 0; i < 512; i++) {
            DUE.is("record(true)", x.record(true), i + 1);
        }
        DUE.is("count(7)", x.count(7), 512);
        x.push(4, 0);
        DUE.is("record(true), full for rows", x.record(true), TypeLoom.FULL);
        DUE.is("count(2)", x.count(2), 1);
        DUE.is("count(1)", x.count(1), 513);
        x.push(-1, 0);
        DUE.is("record(true), though full", x.record(true), TypeLoom.NONE);
        DUE.is("clear(0, 0)", x.clear(0, 0), true);
        DUE.is("count(7)", x.count(7), 0);
        DUE.is("record(true)", x.record(true), 0);
        for (int i = 1; i < 512; i++) {
            x.record(true);
        }
        DUE.is("record(true), full for rows", x.record(true), TypeLoom.FULL);
        DUE.is("record(false)", x.record(false), 512);
        // Rows that unify() makes count for nothing, and all 512 can be had in one.
        for (int i = 1; i < 512; i++) {
            DUE.is("unify(0, " + i + ")", x.unify(0, i), true);
        }
        DUE.is("count(7)", x.count(7), 512);
        DUE.is("unify(0, closed)", x.unify(0, 512), true);
        DUE.is("look(511, 0, 6)", x.look(511, 0L, 6), 0);
        DUE.is("record(true), still full", x.record(true), TypeLoom.FULL);
    }

    private static void schemes() {
        TypeLoom x = new TypeLoom();
        x.record(false);
        for (int s = 0; s < 2048; s++) {
            DUE.is("scheme(0)", x.scheme(0), s);
        }
        DUE.is("scheme(0), full", x.scheme(0), TypeLoom.FULL);
        DUE.is("scheme(1), though full", x.scheme(1), TypeLoom.NONE);
        DUE.is("count(3)", x.count(3), 2048);
        DUE.is("count(5)", x.count(5), 2048);
        DUE.is("quantified(2047, 1)", x.quantified(2047, 1), 1);
        DUE.is("quantified(2048, 1)", x.quantified(2048, 1), TypeLoom.NONE);
        DUE.is("alike(0, 2047)", x.alike(0, 2047), true);
        DUE.is("instance(2047)", x.instance(2047), 1);
        DUE.is("clear(0, 2049)", x.clear(0, 2049), false);
        DUE.is("clear(0, 2047)", x.clear(0, 2047), true);
        x.record(false);
        DUE.is("scheme(0)", x.scheme(0), 2047);
        DUE.is("scheme(0), full", x.scheme(0), TypeLoom.FULL);
    }
}
