/** Promises 31 and 32: drawers. Each sentence at its bounds, and that what is refused changes nothing. */
final class DrawerEdgesTest extends Checks {
    private static final int[] NO_DRAWER = {4, -1, LEAST_INT, GREATEST_INT};
    private static final int[] NO_PLACE = {8, -1, LEAST_INT, GREATEST_INT};

    public static void main(String[] args) {
        sentence("31: A POLICY is put into a place, 0 to 7, of a DRAWER, 0 to 3: 0", DrawerEdgesTest::file);
        sentence("31: (instead of what is there)", DrawerEdgesTest::fileInstead);
        sentence("31: NONE: there are none such", DrawerEdgesTest::fileNone);
        sentence("31: -2: its CLAUSE is of another kind", DrawerEdgesTest::fileOfAnotherKind);
        sentence("32: What lies in a place of a DRAWER: the POLICY", DrawerEdgesTest::filedPolicy);
        sentence("32: or (to) TO of its CLAUSE as it was", DrawerEdgesTest::filedTo);
        sentence("32: NONE: there is none such", DrawerEdgesTest::filedNone);
        sentence("32: -2: nothing does", DrawerEdgesTest::filedNothing);
        end();
    }

    private static void file() {
        CoverRings x = eight(10);
        for (int drawer = PLAIN; drawer <= ESCAPE; drawer++) {
            x.clause(7, drawer, 10 + drawer);
            for (int place : new int[] {0, 7}) {
                due("file(" + drawer + ", " + place + ", 7)", x.file(drawer, place, 7), 0);
                due("it lies there", x.filed(drawer, place, false), 7);
                due("its TO", x.filed(drawer, place, true), 10 + drawer);
            }
            for (int place = 1; place < 7; place++) {
                due("nowhere else", x.filed(drawer, place, false), -2);
            }
        }
        due("the CLAUSE stays", x.of(7, 5), ESCAPE);
    }

    private static void fileInstead() {
        CoverRings x = limits(10, 10);
        x.clause(0, PLAIN, 5);
        x.file(0, 3, 0);
        due("another one", x.file(0, 3, 1), 0);
        due("instead", x.filed(0, 3, false), 1);
        due("instead, TO", x.filed(0, 3, true), 0);
        due("the same again", x.file(0, 3, 1), 0);
        x.clause(1, PLAIN, 9);
        due("TO is still as it was", x.filed(0, 3, true), 0);
        due("put there anew", x.file(0, 3, 1), 0);
        due("TO as it is now", x.filed(0, 3, true), 9);
        due("in another place, too", x.file(0, 4, 1), 0);
        due("it lies in both", x.filed(0, 3, false), 1);
    }

    private static void fileNone() {
        for (int drawer : NO_DRAWER) {
            unchanging(Checks::some, "no DRAWER " + drawer, NONE, x -> x.file(drawer, 0, 0));
        }
        for (int place : NO_PLACE) {
            unchanging(Checks::some, "no place " + place, NONE, x -> x.file(0, place, 0));
        }
        for (int p : NO_POLICY_OF_THREE) {
            unchanging(Checks::some, "no POLICY " + p, NONE, x -> x.file(0, 0, p));
            unchanging(Checks::some, "no POLICY " + p + ", another DRAWER", NONE, x -> x.file(3, 0, p));
        }
        unchanging(Checks::some, "no place, and of another kind", NONE, x -> x.file(3, 8, 0));
        unchanging(Checks::full, "no POLICY 8 of all", NONE, x -> x.file(0, 0, 8));
    }

    private static void fileOfAnotherKind() {
        for (int p = 0; p < 3; p++) {
            int policy = p;
            int kind = new int[] {PLAIN, EXCESS, ESCAPE}[p];
            for (int d = PLAIN; d <= ESCAPE; d++) {
                int drawer = d;
                if (drawer != kind) {
                    unchanging(Checks::some, p + " into DRAWER " + drawer, -2, x -> x.file(drawer, 5, policy));
                    unchanging(Checks::some, p + " where something lies", -2, x -> x.file(drawer, drawer == PLAIN ? 0 : 3, policy));
                }
            }
        }
    }

    private static void filedPolicy() {
        CoverRings x = eight(10);
        for (int p = 0; p < 8; p++) {
            x.file(0, 7 - p, p);
        }
        for (int place = 0; place < 8; place++) {
            due("the POLICY in " + place, x.filed(0, place, false), 7 - place);
        }
        unchanging(Checks::some, "to ask", 1, y -> y.filed(EXCESS, 3, false));
        unchanging(Checks::some, "to ask for TO", 0b100, y -> y.filed(EXCESS, 3, true));
    }

    private static void filedTo() {
        CoverRings x = limits(10);
        int[] tos = {0, 1, 128, 255};
        for (int i = 0; i < tos.length; i++) {
            x.clause(0, RATEABLE, tos[i]);
            x.file(RATEABLE, i, 0);
        }
        x.clause(0, ESCAPE, 77);
        for (int i = 0; i < tos.length; i++) {
            due("TO as it was in " + i, x.filed(RATEABLE, i, true), tos[i]);
            due("the POLICY in " + i, x.filed(RATEABLE, i, false), 0);
        }
    }

    private static void filedNone() {
        for (int drawer : NO_DRAWER) {
            unchanging(Checks::full, "no DRAWER " + drawer, NONE, x -> x.filed(drawer, 0, false));
            unchanging(Checks::full, "no DRAWER " + drawer + ", TO", NONE, x -> x.filed(drawer, 0, true));
        }
        for (int place : NO_PLACE) {
            unchanging(Checks::full, "no place " + place, NONE, x -> x.filed(0, place, false));
            unchanging(Checks::full, "no place " + place + ", TO", NONE, x -> x.filed(0, place, true));
        }
    }

    private static void filedNothing() {
        for (int drawer = 0; drawer < 4; drawer++) {
            for (int place = 0; place < 8; place++) {
                due("a new object", new CoverRings().filed(drawer, place, false), -2);
                due("a new object, TO", new CoverRings().filed(drawer, place, true), -2);
            }
        }
        CoverRings x = limits(10);
        due("refused: of another kind", x.file(1, 0, 0), -2);
        due("still nothing", x.filed(1, 0, false), -2);
        due("still nothing, TO", x.filed(1, 0, true), -2);
        x.file(0, 0, 0);
        due("beside what lies there", x.filed(0, 1, false), -2);
        due("in the same place of another DRAWER", x.filed(1, 0, true), -2);
    }
}
