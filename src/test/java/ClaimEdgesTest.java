/** Promises 20 to 22: claims, recovery, insurers that can't pay. Each sentence at its bounds. */
final class ClaimEdgesTest extends Checks {
    private static final long[] ROWS_THAT_CANNOT_BE = {4, 8, 9, 2 * 9, 1 + 4 * 9, 1 + 2 * 81, row(0, 0), row(0, 1, 0), row(2, 1, 0, 2),
        row(0, 1, 2) + 729, row(0, 1, 2) + 4 * 729, -1, -9, -row(0, 1), 1L << 32 | 1, Long.MIN_VALUE, Long.MAX_VALUE};

    public static void main(String[] args) {
        sentence("20: CLAIM on a LOSS: FIRST of a POLICY", ClaimEdgesTest::firstOfAPolicy);
        sentence("20: or (NONE) all together", ClaimEdgesTest::allTogether);
        sentence("20: NONE: there are none such", ClaimEdgesTest::claimedNone);
        sentence("20: NONE: the row can't be (a digit of no POLICY, one twice)", ClaimEdgesTest::claimedRow);
        sentence("21: what 0: who pays, 1: whom (8: the INSURED), 2: how much", ClaimEdgesTest::recovery);
        sentence("21: k-th from 0 on, in their order", ClaimEdgesTest::recoveryInOrder);
        sentence("21: k NONE: how many", ClaimEdgesTest::recoveryHowMany);
        sentence("21: NONE: likewise", ClaimEdgesTest::recoveryNone);
        sentence("21: NONE: not so many", ClaimEdgesTest::recoveryNotSoMany);
        sentence("21: NONE: another what", ClaimEdgesTest::recoveryAnotherWhat);
        sentence("22: BROKE: what a POLICY pays for a LOSS then", ClaimEdgesTest::broke);
        sentence("22: or (NONE) what the INSURED LACKS", ClaimEdgesTest::brokeLacks);
        sentence("22: NONE: there are none such", ClaimEdgesTest::brokeNone);
        sentence("22: NONE: BROKE are others than POLICIES", ClaimEdgesTest::brokeOthers);
        end();
    }

    private static void firstOfAPolicy() {
        CoverRings x = eight(10);
        x.loss(0, 35);
        long rising = row(0, 1, 2, 3, 4, 5, 6, 7);
        long falling = row(7, 6, 5, 4, 3, 2, 1, 0);
        int[] firsts = {10, 10, 10, 5, 0, 0, 0, 0};
        for (int p = 0; p < 8; p++) {
            due("rising, FIRST of " + p, x.claimed(0, rising, p), firsts[p]);
            due("falling, FIRST of " + p, x.claimed(0, falling, p), firsts[7 - p]);
            due("alone, FIRST of " + p, x.claimed(0, row(p), p), 10);
            due("on nobody, FIRST of " + p, x.claimed(0, 0, p), 0);
        }
        x.loss(1, 35);
        due("a LOSS with TOTAL 0", x.claimed(1, rising, 0), 0);
        x.loss(0, 4);
        due("of another LOSS", x.claimed(2, rising, 0), 4);
    }

    private static void allTogether() {
        CoverRings x = eight(10);
        x.loss(0, 35);
        due("nobody", x.claimed(0, 0, NONE), 0);
        due("three: not enough", x.claimed(0, row(5, 3, 4), NONE), 30);
        due("four: TOTAL", x.claimed(0, row(5, 3, 4, 0), NONE), 35);
        due("all 8: TOTAL", x.claimed(0, row(0, 1, 2, 3, 4, 5, 6, 7), NONE), 35);
        CoverRings most = eight(MILLION);
        most.loss(0, MILLION);
        due("the greatest", most.claimed(0, row(7, 0), NONE), MILLION);
    }

    private static void claimedNone() {
        for (int loss : NO_LOSS_OF_TWO) {
            unchanging(Checks::some, "no LOSS " + loss, NONE, x -> x.claimed(loss, row(0), 0));
        }
        for (int p : NO_POLICY_NOR_NONE) {
            unchanging(Checks::some, "no POLICY " + p, NONE, x -> x.claimed(0, row(0), p));
        }
        due("no LOSS 10 of all", full().claimed(10, 0, NONE), NONE);
        due("no POLICY 8 of all", full().claimed(9, 0, 8), NONE);
        due("POLICY 7 of all", full().claimed(9, 0, 7), 0);
        due("a new object", new CoverRings().claimed(0, 0, NONE), NONE);
    }

    private static void claimedRow() {
        for (long bad : ROWS_THAT_CANNOT_BE) {
            unchanging(Checks::some, "row " + bad, NONE, x -> x.claimed(0, bad, NONE));
            unchanging(Checks::some, "row " + bad + ", FIRST", NONE, x -> x.claimed(0, bad, 0));
        }
        due("a row of all three", answer(some(), x -> x.claimed(0, row(2, 1, 0), NONE)) == NONE, false);
        CoverRings later = limits(10);
        later.loss(0, 5);
        due("a digit of no POLICY", later.claimed(0, row(1), NONE), NONE);
        later.policy(10, 10, 0, 0, 1);
        due("now it is there", later.claimed(0, row(1), NONE), 5);
        CoverRings all = eight(10);
        all.loss(0, 35);
        due("the greatest row that can be", all.claimed(0, 42_374_116L, NONE), 35);
        due("it is the one of all 8, the last one last", row(0, 1, 2, 3, 4, 5, 6, 7), 42_374_116L);
        due("one more: a digit twice", all.claimed(0, 42_374_117L, NONE), NONE);
        due("one less: a digit 0 ahead", all.claimed(0, 42_374_115L, NONE), NONE);
        due("behind all 8 another one", all.claimed(0, 42_374_116L + 43_046_721L, NONE), NONE);
    }

    private static void recovery() {
        // SHARES 20 and 40, LONES 30 and 60
        CoverRings x = lossOn(60, 30, 60);
        int[][] want = {{1, INSURED, 30}, {1, 0, 10}};
        for (int k = 0; k < 2; k++) {
            for (int what = 0; what <= 2; what++) {
                due("0 paid 30: " + k + ", " + what, x.recovery(0, row(0), k, what), want[k][what]);
            }
        }
        CoverRings all = eight(10);
        all.loss(0, 8);
        due("the last one can pay", all.recovery(0, row(0), 6, 0), 7);
        due("the last one can be paid", all.recovery(0, row(7), 0, 1), 7);
        due("the least", all.recovery(0, row(7), 0, 2), 1);
        CoverRings most = limits(MILLION);
        most.loss(0, MILLION);
        due("the greatest", most.recovery(0, 0, 0, 2), MILLION);
        due("the INSURED", most.recovery(0, 0, 0, 1), 8);
    }

    private static void recoveryInOrder() {
        CoverRings x = eight(10);
        x.loss(0, 80);
        for (int k = 0; k < 8; k++) {
            due("the " + k + "-th pays", x.recovery(0, 0, k, 0), k);
        }
        int[] who = {0, 2, 4, 6};
        for (int k = 0; k < 4; k++) {
            due("the " + k + "-th of those left", x.recovery(0, row(7, 5, 3, 1), k, 0), who[k]);
        }
    }

    private static void recoveryHowMany() {
        CoverRings x = eight(10);
        x.loss(0, 80);
        due("none", x.recovery(0, row(0, 1, 2, 3, 4, 5, 6, 7), NONE, 0), 0);
        due("one", x.recovery(0, row(0, 1, 2, 3, 4, 5, 6), NONE, 1), 1);
        due("all 8", x.recovery(0, 0, NONE, 2), 8);
        x.loss(1, 80);
        due("TOTAL is 0", x.recovery(1, 0, NONE, 0), 0);
        CoverRings most = lossOn(100, 50, 100, 100, 100, 100, 100, 100, 100);
        // SHARES 7, and 14 or 13: the INSURED wants 50 of the others, 0 has 43 back of them, one of them pays both
        due("SHARE of 0", most.share(0, 0, SHARE), 7);
        due("INSURED and a POLICY are paid: one payment more", most.recovery(0, row(0), NONE, 0), 8);
    }

    private static void recoveryNone() {
        for (int loss : NO_LOSS_OF_TWO) {
            unchanging(Checks::some, "no LOSS " + loss, NONE, x -> x.recovery(loss, 0, NONE, 0));
            unchanging(Checks::some, "no LOSS " + loss + ", k 0", NONE, x -> x.recovery(loss, 0, 0, 0));
        }
        for (long bad : ROWS_THAT_CANNOT_BE) {
            unchanging(Checks::some, "row " + bad, NONE, x -> x.recovery(0, bad, NONE, 0));
            unchanging(Checks::some, "row " + bad + ", k 0", NONE, x -> x.recovery(0, bad, 0, 2));
        }
        due("no LOSS 10 of all", full().recovery(10, 0, NONE, 0), NONE);
    }

    private static void recoveryNotSoMany() {
        CoverRings x = lossOn(60, 30, 60);
        for (int k : new int[] {2, 3, 8, 9, -2, LEAST_INT, GREATEST_INT}) {
            due("k " + k + " of two", x.recovery(0, row(0), k, 0), NONE);
            due("k " + k + " of two, how much", x.recovery(0, row(0), k, 2), NONE);
        }
        due("k 0 of one", x.recovery(0, row(0, 1), 0, 0), 1);
        CoverRings exact = lossOn(90, 30, 60);
        due("k 0 of none", exact.recovery(0, row(0, 1), 0, 0), NONE);
        CoverRings all = eight(10);
        all.loss(0, 80);
        due("k 7 of 8", all.recovery(0, 0, 7, 0), 7);
        due("k 8 of 8", all.recovery(0, 0, 8, 0), NONE);
    }

    private static void recoveryAnotherWhat() {
        for (int what : new int[] {-1, 3, 4, LEAST_INT, GREATEST_INT}) {
            unchanging(() -> lossOn(60, 30, 60), "what " + what, NONE, x -> x.recovery(0, row(0), 0, what));
            unchanging(() -> lossOn(60, 30, 60), "what " + what + ", k NONE", NONE, x -> x.recovery(0, row(0), NONE, what));
        }
    }

    private static void broke() {
        CoverRings x = eight(80);
        x.loss(0, 80);
        for (int p = 0; p < 8; p++) {
            due("none BROKE: SHARE of " + p, x.broke(0, 0, p), 10);
            due("all 8 BROKE: " + p, x.broke(0, 255, p), 0);
            due("all but " + p + " BROKE: it pays LONE", x.broke(0, 255 - (1 << p), p), 80);
        }
        // GAP 10 by 7: one each, and one more for the first three
        int[] pays = {12, 12, 12, 11, 11, 11, 11, 0};
        for (int p = 0; p < 8; p++) {
            due("the last one BROKE: " + p, x.broke(0, 128, p), pays[p]);
        }
        x.loss(1, 80);
        due("a LOSS with TOTAL 0", x.broke(1, 128, 0), 0);
    }

    private static void brokeLacks() {
        CoverRings x = eight(80);
        x.loss(0, 80);
        due("none", x.broke(0, 0, NONE), 0);
        due("all but one: one pays all", x.broke(0, 127, NONE), 0);
        due("all", x.broke(0, 255, NONE), 80);
        CoverRings apart = eight(10);
        apart.loss(0, 80);
        due("no ROOM: the least", apart.broke(0, 1, NONE), 10);
        due("no ROOM: all but one", apart.broke(0, 254, NONE), 70);
        CoverRings most = limits(MILLION);
        most.loss(0, MILLION);
        due("the greatest", most.broke(0, 1, NONE), MILLION);
    }

    private static void brokeNone() {
        for (int loss : NO_LOSS_OF_TWO) {
            unchanging(Checks::some, "no LOSS " + loss, NONE, x -> x.broke(loss, 1, 0));
            unchanging(Checks::some, "no LOSS " + loss + ", LACKS", NONE, x -> x.broke(loss, 1, NONE));
        }
        for (int p : NO_POLICY_NOR_NONE) {
            unchanging(Checks::some, "no POLICY " + p, NONE, x -> x.broke(0, 1, p));
        }
        due("no POLICY 8 of all", full().broke(9, 255, 8), NONE);
        due("no LOSS 10 of all", full().broke(10, 255, 7), NONE);
    }

    private static void brokeOthers() {
        for (int bad : new int[] {8, 9, 15, 128, 255, 256, -1, LEAST_INT, GREATEST_INT}) {
            unchanging(Checks::some, "BROKE " + bad, NONE, x -> x.broke(0, bad, 0));
            unchanging(Checks::some, "BROKE " + bad + ", LACKS", NONE, x -> x.broke(0, bad, NONE));
        }
        due("all three", some().broke(0, 7, 0), 0);
        for (int bad : new int[] {256, 511, -1}) {
            due("BROKE " + bad + " of all", full().broke(0, bad, NONE), NONE);
        }
        CoverRings nobody = new CoverRings();
        nobody.loss(0, 5);
        due("BROKE 1 of none", nobody.broke(0, 1, NONE), NONE);
        due("BROKE 0 of none", nobody.broke(0, 0, NONE), 0);
    }
}
