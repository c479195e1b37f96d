/** Promises 12 to 19: a loss. Each sentence at its bounds; to ask changes nothing. */
final class LossEdgesTest extends Checks {
    public static void main(String[] args) {
        sentence("12: Of a LOSS, what 0: ITEM, 1: AMOUNT", LossEdgesTest::settledAsTold);
        sentence("12: 2: TOTAL", LossEdgesTest::settledTotal);
        sentence("12: 3: POLICIES that are IN, as bits, 4: those OUT", LossEdgesTest::settledInAndOut);
        sentence("12: 5: RINGS", LossEdgesTest::settledRings);
        sentence("12: 6: LEVELS (0: none is IN)", LossEdgesTest::settledLevels);
        sentence("12: 7: YIELDS in all (one to one), 8: those that are TRULY", LossEdgesTest::settledYields);
        sentence("12: NONE: there is none such", LossEdgesTest::settledNone);
        sentence("12: NONE: another what", LossEdgesTest::settledAnotherWhat);
        sentence("13: what 0: LONE", LossEdgesTest::shareLone);
        sentence("13: 1: LEVEL (NONE: it is not IN)", LossEdgesTest::shareLevel);
        sentence("13: 2: CAP, 3: SHARE", LossEdgesTest::shareCapAndShare);
        sentence("13: 4: its RING, as bits (0 without)", LossEdgesTest::shareRing);
        sentence("13: 5: to whom it YIELDS, as bits, 6: TRULY", LossEdgesTest::shareYields);
        sentence("13: 7: LEFT ahead of it", LossEdgesTest::shareLeft);
        sentence("13: 8: BURDEN of its LEVEL (NONE: not IN)", LossEdgesTest::shareBurden);
        sentence("13: NoSuchElementException: there are none such", LossEdgesTest::shareNone);
        sentence("13: NoSuchElementException: another what", LossEdgesTest::shareAnotherWhat);
        sentence("14: SHARE by TOTAL of a LOSS as a float, its bits", LossEdgesTest::part);
        sentence("14: NONE: there are none such", LossEdgesTest::partNone);
        sentence("14: NONE: TOTAL is 0", LossEdgesTest::partTotalIs0);
        sentence("15: SHARE by LIMIT as a double, its bits", LossEdgesTest::strain);
        sentence("15: NONE: there are none such", LossEdgesTest::strainNone);
        sentence("16: H of a LEVEL of a LOSS, as if RULE was 1 for that LEVEL (BURDEN as it is)", LossEdgesTest::step);
        sentence("16: NONE: there is none such", LossEdgesTest::stepNone);
        sentence("17: POLICIES of a LEVEL of a LOSS, as bits", LossEdgesTest::level);
        sentence("17: NONE: there is none such", LossEdgesTest::levelNone);
        sentence("18: The k-th RING of a LOSS (by the least number in each), as bits", LossEdgesTest::ring);
        sentence("18: NONE: not so many", LossEdgesTest::ringNone);
        sentence("19: The shortest row of POLICIES, each of which YIELDS to the next: how many (k NONE), or the k-th", LossEdgesTest::way);
        sentence("19: (of as short ones the least, number by number)", LossEdgesTest::wayTheLeast);
        sentence("19: NONE: there is none (also of one and itself)", LossEdgesTest::wayNone);
        sentence("19: NONE: not so many", LossEdgesTest::wayNotSoMany);
        sentence("19: NONE: there are none such", LossEdgesTest::wayOfNoneSuch);
        end();
    }

    private static void settledAsTold() {
        CoverRings x = new CoverRings();
        for (int l = 0; l < 10; l++) {
            x.loss(l < 8 ? l : 15 - l, l == 0 ? 1 : l == 9 ? MILLION : 100 * l);
        }
        int[] items = {0, 1, 2, 3, 4, 5, 6, 7, 7, 6};
        int[] amounts = {1, 100, 200, 300, 400, 500, 600, 700, 800, MILLION};
        for (int l = 0; l < 10; l++) {
            due("ITEM of " + l, x.settled(l, 0), items[l]);
            due("AMOUNT of " + l, x.settled(l, 1), amounts[l]);
        }
    }

    private static void settledTotal() {
        int[] amounts = {1, 29, 30, 31, MILLION};
        int[] totals = {1, 29, 30, 30, 30};
        CoverRings x = limits(10, 20);
        for (int l = 0; l < amounts.length; l++) {
            x.loss(0, amounts[l]);
            due("TOTAL of " + amounts[l], x.settled(l, TOTAL), totals[l]);
        }
        x.loss(1, 5);
        due("none is IN", x.settled(5, TOTAL), 0);
    }

    private static void settledInAndOut() {
        CoverRings x = eight(10);
        x.loss(0, 5);
        x.loss(1, 5);
        due("all 8 IN", x.settled(0, IN), 255);
        due("none OUT", x.settled(0, OUT), 0);
        due("none IN", x.settled(1, IN), 0);
        due("none IN, none OUT", x.settled(1, OUT), 0);
        for (int p = 1; p < 8; p++) {
            x.clause(p, ESCAPE, 1);
        }
        due("OUT are IN, too", x.settled(0, IN), 255);
        due("all but 0 OUT", x.settled(0, OUT), 254);
        x.sub(7, 0, 0);
        due("one that is not IN", x.settled(0, IN), 127);
        due("is not OUT", x.settled(0, OUT), 126);
        x.sub(0, 0, 0);
        due("nobody to yield to", x.settled(0, OUT), 0);
    }

    private static void settledRings() {
        CoverRings x = eight(10);
        x.loss(0, 5);
        due("none", x.settled(0, RINGS), 0);
        for (int pair = 0; pair < 4; pair++) {
            x.clause(2 * pair, EXCESS, 2 << 2 * pair);
            due("half a pair", x.settled(0, RINGS), pair);
            x.clause(2 * pair + 1, ESCAPE, 1 << 2 * pair);
            due("pairs", x.settled(0, RINGS), pair + 1);
        }
        x.clause(1, ESCAPE, 0b101);
        due("one pair leads to another: still four", x.settled(0, RINGS), 4);
        x.clause(3, ESCAPE, 0b110);
        due("and back: three", x.settled(0, RINGS), 3);
    }

    private static void settledLevels() {
        CoverRings x = eight(10);
        x.loss(1, 5);
        x.loss(0, 5);
        due("none is IN", x.settled(0, LEVELS), 0);
        due("all at 0", x.settled(1, LEVELS), 1);
        for (int p = 1; p < 8; p++) {
            x.clause(p, p % 2 == 0 ? EXCESS : ESCAPE, 1 << p - 1);
            due("a chain of " + (p + 1), x.settled(1, LEVELS), p + 1);
        }
        x.clause(0, EXCESS, 128);
        due("a RING of all", x.settled(1, LEVELS), 1);
        x.sub(4, 0, 0);
        due("without one of them: a chain of 7", x.settled(1, LEVELS), 7);
    }

    private static void settledYields() {
        CoverRings x = eight(10);
        x.loss(0, 5);
        due("none", x.settled(0, ALL_YIELDS), 0);
        due("none TRULY", x.settled(0, ALL_TRULY), 0);
        for (int p = 0; p < 8; p++) {
            x.clause(p, EXCESS, (1 << p) - 1);
        }
        due("each to all ahead of it", x.settled(0, ALL_YIELDS), 28);
        due("all of them TRULY", x.settled(0, ALL_TRULY), 28);
        x.clause(0, EXCESS, 0b10);
        due("0 to 1 and back", x.settled(0, ALL_YIELDS), 29);
        due("those two are not TRULY", x.settled(0, ALL_TRULY), 27);
        for (int p = 0; p < 8; p++) {
            x.clause(p, ESCAPE, 255);
        }
        due("each to each", x.settled(0, ALL_YIELDS), 56);
        due("none of them TRULY", x.settled(0, ALL_TRULY), 0);
    }

    private static void settledNone() {
        for (int loss : NO_LOSS_OF_TWO) {
            for (int what : new int[] {0, 8, 9}) {
                unchanging(Checks::some, "settled(" + loss + ", " + what + ")", NONE, x -> x.settled(loss, what));
            }
        }
        due("settled(10, 0) of all 10", full().settled(10, 0), NONE);
        due("settled(9, 1) of all 10", full().settled(9, 1), 950);
        due("of a new object", new CoverRings().settled(0, 0), NONE);
    }

    private static void settledAnotherWhat() {
        for (int what : new int[] {-1, 9, 10, LEAST_INT, GREATEST_INT}) {
            unchanging(Checks::some, "settled(1, " + what + ")", NONE, x -> x.settled(1, what));
        }
    }

    private static void shareLone() {
        CoverRings x = lossOn(15, 14, 15, 16);
        dueOfEach("LIMIT one below, as much, one above: LONE", x, 0, LONE, 14, 15, 15);
        x.loss(1, 15);
        dueOfEach("not of its ITEMS: LONE", x, 1, LONE, 0, 0, 0);
    }

    private static void shareLevel() {
        CoverRings x = lossOn(5, 10, 10, 10);
        x.clause(1, EXCESS, 0b001);
        x.clause(2, EXCESS, 0b010);
        dueOfEach("LEVEL", x, 0, LEVEL, 0, 1, 2);
        x.sub(1, 0, 0);
        dueOfEach("1 is not IN: LEVEL", x, 0, LEVEL, 0, NONE, 0);
        x.sub(1, 0, 1);
        dueOfEach("1 is just IN: LEVEL", x, 0, LEVEL, 0, 1, 2);
        x.clause(1, ESCAPE, 0b001);
        dueOfEach("one that is OUT has a LEVEL: LEVEL", x, 0, LEVEL, 0, 1, 2);
    }

    private static void shareCapAndShare() {
        CoverRings x = lossOn(15, 10, 10, 10, 10);
        x.clause(1, EXCESS, 0b0001);
        x.clause(2, ESCAPE, 0b0001);
        x.sub(3, 0, 0);
        dueOfEach("CAP", x, 0, CAP, 10, 5, 0, 0);
        dueOfEach("SHARE", x, 0, SHARE, 10, 5, 0, 0);
        CoverRings less = lossOn(15, 10, 10);
        dueOfEach("CAP", less, 0, CAP, 10, 10);
        dueOfEach("SHARE", less, 0, SHARE, 8, 7);
        less.loss(1, 15);
        dueOfEach("none is IN behind a LOSS where all are: CAP", less, 1, CAP, 0, 0);
        dueOfEach("none is IN behind a LOSS where all are: SHARE", less, 1, SHARE, 0, 0);
    }

    private static void shareRing() {
        CoverRings x = eight(10);
        x.loss(0, 5);
        x.clause(0, EXCESS, 0b10000010);
        x.clause(7, EXCESS, 0b00000001);
        x.clause(3, EXCESS, 0b00000001);
        dueOfEach("RING", x, 0, RING, 0b10000001, 0, 0, 0, 0, 0, 0, 0b10000001);
        x.sub(7, 0, 0);
        dueOfEach("7 is not IN: RING", x, 0, RING, 0, 0, 0, 0, 0, 0, 0, 0);
    }

    private static void shareYields() {
        CoverRings x = eight(10);
        x.loss(0, 5);
        x.clause(7, ESCAPE, 255);
        due("to all 7 others", x.share(0, 7, YIELDS), 127);
        due("TRULY", x.share(0, 7, TRULY), 127);
        x.clause(6, EXCESS, 128);
        due("6 is of its RING", x.share(0, 7, TRULY), 63);
        due("it YIELDS to 6 all the same", x.share(0, 7, YIELDS), 127);
        due("6 does not TRULY", x.share(0, 6, TRULY), 0);
        x.sub(7, 0, 0);
        due("not IN", x.share(0, 7, YIELDS), 0);
        due("not IN, TRULY", x.share(0, 7, TRULY), 0);
        due("6 to one that is not IN", x.share(0, 6, YIELDS), 0);
    }

    private static void shareLeft() {
        CoverRings x = new CoverRings();
        x.policy(10, 30, 0, 0, 1);
        for (int l = 0; l < 10; l++) {
            x.loss(l == 1 ? 1 : 0, 10);
        }
        int[] left = {30, 20, 20, 10, 0, 0, 0, 0, 0, 0};
        for (int l = 0; l < 10; l++) {
            due("LEFT ahead of " + l, x.share(l, 0, LEFT), left[l]);
        }
        due("also where it is not IN", x.share(1, 0, LEVEL), NONE);
    }

    private static void shareBurden() {
        CoverRings x = lossOn(25, 10, 10, 10, 10);
        x.clause(1, EXCESS, 0b0001);
        x.clause(2, EXCESS, 0b0010);
        dueOfEach("BURDEN", x, 0, BURDEN, 25, 5, 0, 25);
        x.sub(2, 0, 0);
        dueOfEach("2 is not IN: BURDEN", x, 0, BURDEN, 25, 5, NONE, 25);
        x.clause(1, ESCAPE, 0b0001);
        due("of one that is OUT", x.share(0, 1, BURDEN), 5);
        CoverRings chain = eight(10);
        chain.loss(0, 75);
        for (int p = 1; p < 8; p++) {
            chain.clause(p, EXCESS, 1 << p - 1);
        }
        dueOfEach("the last LEVEL that can be: BURDEN", chain, 0, BURDEN, 75, 65, 55, 45, 35, 25, 15, 5);
    }

    private static void shareNone() {
        for (int loss : NO_LOSS_OF_TWO) {
            unchanging(Checks::some, "share(" + loss + ", 0, 0)", THROWN, x -> x.share(loss, 0, 0));
        }
        for (int p : NO_POLICY_OF_THREE) {
            unchanging(Checks::some, "share(0, " + p + ", 0)", THROWN, x -> x.share(0, p, 0));
        }
        dueThrow("share(10, 7, 0) of all", full(), x -> x.share(10, 7, 0));
        dueThrow("share(9, 8, 0) of all", full(), x -> x.share(9, 8, 0));
        due("share(9, 7, 0) of all", answer(full(), x -> x.share(9, 7, 0)) == THROWN, false);
        dueThrow("of a new object", new CoverRings(), x -> x.share(0, 0, 0));
    }

    private static void shareAnotherWhat() {
        for (int what : new int[] {-1, 9, 10, LEAST_INT, GREATEST_INT}) {
            unchanging(Checks::some, "share(0, 0, " + what + ")", THROWN, x -> x.share(0, 0, what));
        }
    }

    private static void part() {
        due("a third", lossOn(300, 100, 200).part(0, 0), 0x3eaaaaab);
        due("two thirds", lossOn(300, 100, 200).part(0, 1), 0x3f2aaaab);
        due("a half", lossOn(300, 150, 150).part(0, 0), 0x3f000000);
        due("all", lossOn(300, 300).part(0, 0), 0x3f800000);
        CoverRings none = lossOn(300, 300, 300);
        none.clause(1, EXCESS, 1);
        due("nothing", none.part(0, 1), 0);
        due("the least: 1 of 1000000", lossOn(MILLION, 1, 999_999).part(0, 0), 0x358637bd);
        due("the greatest below all", lossOn(MILLION, 1, 999_999).part(0, 1), Float.floatToIntBits(999_999f / 1_000_000f));
        CoverRings notIn = lossOn(300, 300, 300);
        notIn.sub(1, 0, 0);
        due("one that is not IN", notIn.part(0, 1), 0);
    }

    private static void partNone() {
        for (int loss : NO_LOSS_OF_TWO) {
            unchanging(Checks::some, "part(" + loss + ", 0)", NONE, x -> x.part(loss, 0));
        }
        for (int p : NO_POLICY_OF_THREE) {
            unchanging(Checks::some, "part(0, " + p + ")", NONE, x -> x.part(0, p));
        }
    }

    private static void partTotalIs0() {
        CoverRings x = limits(10);
        x.loss(1, 5);
        due("none is IN", x.part(0, 0), NONE);
        x.loss(0, 1);
        due("the least TOTAL", x.part(1, 0), 0x3f800000);
        x.sub(0, 0, 0);
        due("a SUBLIMIT of 0", x.part(1, 0), NONE);
    }

    private static void strain() {
        due("all", lossOn(300, 300).strain(0, 0), 0x3ff0000000000000L);
        due("a half", lossOn(150, 300).strain(0, 0), 0x3fe0000000000000L);
        due("a third", lossOn(100, 300).strain(0, 0), 0x3fd5555555555555L);
        due("one below all", lossOn(299, 300).strain(0, 0), Double.doubleToLongBits(299.0 / 300.0));
        due("the least: 1 of 1000000", lossOn(1, MILLION).strain(0, 0), 0x3eb0c6f7a0b5ed8dL);
        due("the least LIMIT", lossOn(MILLION, 1).strain(0, 0), 0x3ff0000000000000L);
        CoverRings x = limits(300);
        x.loss(1, 100);
        due("nothing", x.strain(0, 0), 0);
        x.loss(0, 100);
        x.limit(0, 50);
        due("LIMIT as it is now", x.strain(1, 0), 0x3ff0000000000000L);
    }

    private static void strainNone() {
        for (int loss : NO_LOSS_OF_TWO) {
            unchanging(Checks::some, "strain(" + loss + ", 0)", NONE, x -> x.strain(loss, 0));
        }
        for (int p : NO_POLICY_OF_THREE) {
            unchanging(Checks::some, "strain(0, " + p + ")", NONE, x -> x.strain(0, p));
        }
        due("a long", lossOn(5, 10).strain(0, 1), -1L);
    }

    private static void step() {
        CoverRings x = lossOn(32, 10, 20, 9, 9);
        x.clause(2, EXCESS, 0b0011);
        x.clause(3, EXCESS, 0b0011);
        due("LEVEL 0: all CAPS", x.step(0, 0), 20);
        due("LEVEL 1: 2 among two", x.step(0, 1), 1);
        x.limit(1, 17);
        due("LEVEL 1: 5 among two", x.step(0, 1), 2);
        x.limit(1, 22);
        due("LEVEL 1: no BURDEN", x.step(0, 1), 0);
        CoverRings other = lossOn(30, 10, 30);
        due("RULE 0: H is that of RULE 1", other.step(0, 0), 20);
        other.rule();
        due("RULE 1", other.step(0, 0), 20);
        CoverRings burden = new CoverRings();
        burden.policy(10, 9, 0, 0, 1);
        burden.policy(30, 20, 0, 0, 1);
        burden.policy(50, MOST, 0, 0, 1);
        burden.clause(2, EXCESS, 0b11);
        burden.loss(0, 20);
        burden.loss(0, 20);
        // RULE 0 uses up 6 of 9 and 14 of 20 (9 and 20 of 29): 3 and 6 are left for the second LOSS, RULE 1 would leave 0 and 9
        due("BURDEN as it is by RULE 0", burden.step(1, 1), 11);
        due("LEVEL 0 of it", burden.step(1, 0), 6);
    }

    private static void stepNone() {
        CoverRings x = lossOn(5, 10, 10);
        x.clause(1, EXCESS, 1);
        x.loss(1, 5);
        for (int level : new int[] {2, 7, 8, -1, LEAST_INT, GREATEST_INT}) {
            due("LEVEL " + level + " of two", x.step(0, level), NONE);
        }
        due("none is IN", x.step(1, 0), NONE);
        for (int loss : NO_LOSS_OF_TWO) {
            unchanging(Checks::some, "step(" + loss + ", 0)", NONE, y -> y.step(loss, 0));
        }
        unchanging(Checks::some, "step(0, -1)", NONE, y -> y.step(0, -1));
        CoverRings most = eight(10);
        for (int p = 1; p < 8; p++) {
            most.clause(p, EXCESS, 1 << p - 1);
        }
        most.loss(0, 75);
        due("LEVEL 7 of 8", most.step(0, 7), 5);
        due("LEVEL 8 of 8", most.step(0, 8), NONE);
    }

    private static void level() {
        CoverRings x = eight(10);
        x.loss(0, 5);
        due("all at 0", x.level(0, 0), 255);
        for (int p = 1; p < 8; p++) {
            x.clause(p, EXCESS, 1 << p - 1);
        }
        for (int level = 0; level < 8; level++) {
            due("a chain, LEVEL " + level, x.level(0, level), 1 << level);
        }
        for (int p = 1; p < 8; p++) {
            x.clause(p, ESCAPE, 1);
        }
        due("one", x.level(0, 0), 1);
        due("OUT are of the LEVEL, too", x.level(0, 1), 254);
        x.sub(4, 0, 0);
        due("one that is not IN is of none", x.level(0, 1), 254 - 16);
    }

    private static void levelNone() {
        CoverRings x = lossOn(5, 10, 10);
        x.clause(1, EXCESS, 1);
        x.loss(1, 5);
        due("the last", x.level(0, 1), 2);
        for (int level : new int[] {2, 7, 8, -1, LEAST_INT, GREATEST_INT}) {
            due("LEVEL " + level + " of two", x.level(0, level), NONE);
        }
        due("none is IN", x.level(1, 0), NONE);
        for (int loss : NO_LOSS_OF_TWO) {
            unchanging(Checks::some, "level(" + loss + ", 0)", NONE, y -> y.level(loss, 0));
        }
        unchanging(Checks::some, "level(0, -1)", NONE, y -> y.level(0, -1));
    }

    private static void ring() {
        CoverRings x = eight(10);
        x.loss(0, 5);
        int[] partners = {7, 6, 5, 4, 3, 2, 1, 0};
        for (int p = 0; p < 8; p++) {
            x.clause(p, EXCESS, 1 << partners[p]);
        }
        int[] rings = {0b10000001, 0b01000010, 0b00100100, 0b00011000};
        for (int k = 0; k < 4; k++) {
            due("ring " + k + " of four", x.ring(0, k), rings[k]);
        }
        for (int p = 0; p < 8; p++) {
            x.clause(p, EXCESS, 255);
        }
        due("one of all", x.ring(0, 0), 255);
        for (int p = 0; p < 8; p++) {
            x.clause(p, EXCESS, p < 2 ? 0 : p < 5 ? 1 << (p - 1) % 3 + 2 : 0b11100000);
        }
        due("2, 3, 4", x.ring(0, 0), 0b11100);
        due("5, 6, 7", x.ring(0, 1), 0b11100000);
    }

    private static void ringNone() {
        CoverRings x = lossOn(5, 10, 10);
        due("no RING", x.ring(0, 0), NONE);
        x.clause(0, EXCESS, 2);
        x.clause(1, EXCESS, 1);
        due("the first", x.ring(0, 0), 3);
        for (int k : new int[] {1, 4, -1, LEAST_INT, GREATEST_INT}) {
            due("ring " + k + " of one", x.ring(0, k), NONE);
        }
        x.loss(1, 5);
        due("none is IN", x.ring(1, 0), NONE);
        for (int loss : NO_LOSS_OF_TWO) {
            unchanging(Checks::some, "ring(" + loss + ", 0)", NONE, y -> y.ring(loss, 0));
        }
    }

    private static void dueWay(String state, CoverRings x, int one, int other, int... row) {
        due(state + ": how many", x.way(0, one, other, NONE), row.length);
        for (int k = 0; k < row.length; k++) {
            due(state + ": " + k, x.way(0, one, other, k), row[k]);
        }
        due(state + ": not so many", x.way(0, one, other, row.length), NONE);
    }

    private static void way() {
        CoverRings x = eight(10);
        x.loss(0, 5);
        for (int p = 0; p < 7; p++) {
            x.clause(7 - p, EXCESS, 1 << 6 - p);
        }
        dueWay("one to the next: the shortest that can be", x, 7, 6, 7, 6);
        dueWay("all 8: the longest that can be", x, 7, 0, 7, 6, 5, 4, 3, 2, 1, 0);
        x.clause(7, EXCESS, 0b01000010);
        dueWay("a shorter one", x, 7, 0, 7, 1, 0);
        x.clause(0, ESCAPE, 128);
        dueWay("on round the RING", x, 1, 6, 1, 0, 7, 6);
        x.sub(0, 0, 0);
        due("0 is not IN", x.way(0, 1, 6, NONE), NONE);
        dueWay("where it was not needed", x, 7, 2, 7, 6, 5, 4, 3, 2);
    }

    private static void wayTheLeast() {
        CoverRings x = eight(10);
        x.loss(0, 5);
        x.clause(3, EXCESS, 0b01110000);
        x.clause(4, EXCESS, 0b00000100);
        x.clause(5, EXCESS, 0b00000011);
        x.clause(6, EXCESS, 0b00000001);
        x.clause(0, EXCESS, 0b10000000);
        x.clause(1, EXCESS, 0b10000000);
        x.clause(2, EXCESS, 0b10000000);
        dueWay("by 4 and 2, not by 5 and 0: the first number that differs", x, 3, 7, 3, 4, 2, 7);
        x.clause(4, EXCESS, 0);
        dueWay("by 5 and 0, not by 5 and 1, not by 6", x, 3, 7, 3, 5, 0, 7);
        x.clause(6, EXCESS, 0b10000000);
        dueWay("a shorter one ahead of a lesser one", x, 3, 7, 3, 6, 7);
        x.clause(3, EXCESS, 0b10010000);
        dueWay("4 is less than 7, but leads nowhere", x, 3, 7, 3, 7);
    }

    private static void wayNone() {
        CoverRings x = lossOn(5, 10, 10, 10);
        x.clause(0, EXCESS, 0b010);
        due("there is none back", x.way(0, 1, 0, NONE), NONE);
        due("there is none to another one", x.way(0, 0, 2, NONE), NONE);
        due("there is none, the first of it", x.way(0, 0, 2, 0), NONE);
        x.clause(1, EXCESS, 0b001);
        for (int p = 0; p < 3; p++) {
            due("one and itself", x.way(0, p, p, NONE), NONE);
            due("one and itself, the first", x.way(0, p, p, 0), NONE);
        }
        due("in the same RING", x.way(0, 1, 0, NONE), 2);
        x.sub(0, 0, 0);
        due("one is not IN", x.way(0, 1, 0, NONE), NONE);
    }

    private static void wayNotSoMany() {
        CoverRings x = lossOn(5, 10, 10);
        x.clause(0, EXCESS, 2);
        due("the last", x.way(0, 0, 1, 1), 1);
        for (int k : new int[] {2, 7, 8, -2, LEAST_INT, GREATEST_INT}) {
            due("k is " + k, x.way(0, 0, 1, k), NONE);
        }
    }

    private static void wayOfNoneSuch() {
        for (int loss : NO_LOSS_OF_TWO) {
            unchanging(Checks::some, "of no LOSS " + loss, NONE, x -> x.way(loss, 1, 2, NONE));
        }
        for (int p : NO_POLICY_OF_THREE) {
            unchanging(Checks::some, "from no POLICY " + p, NONE, x -> x.way(0, p, 2, NONE));
            unchanging(Checks::some, "to no POLICY " + p, NONE, x -> x.way(0, 1, p, NONE));
            unchanging(Checks::some, "from and to no POLICY " + p, NONE, x -> x.way(0, p, p, 0));
        }
        due("there is one", some().way(0, 1, 2, NONE), 2);
    }
}
