/** Terms, 2: yields, rings, levels, who is out, and the shares, at the bounds of each sentence. */
final class Terms2Test extends Checks {
    public static void main(String[] args) {
        sentence("one that is IN, with EXCESS or ESCAPE, YIELDS", Terms2Test::whoYields);
        sentence("YIELDS to all others of TO that are IN", Terms2Test::toWhomItYields);
        sentence("A RING: more than one that are IN", Terms2Test::ringOfMoreThanOne);
        sentence("as many as can be", Terms2Test::ringOfAsManyAsCanBe);
        sentence("each of which YIELDS to each other one of them, by way of any number of others", Terms2Test::byWayOfOthers);
        sentence("One YIELDS TRULY, if it is not to one of its own RING", Terms2Test::truly);
        sentence("LEVEL: 0, if it YIELDS TRULY to none", Terms2Test::levelNone);
        sentence("else 1 more than the greatest LEVEL of those to whom it does", Terms2Test::levelMore);
        sentence("OUT is one with ESCAPE that YIELDS TRULY to any that is not OUT", Terms2Test::out);
        sentence("By LEVELS, rising: BURDEN of a LEVEL: AMOUNT less all SHARES of lesser LEVELS", Terms2Test::burden);
        sentence("CAP of one of it that is IN and not OUT: what it owes for the BURDEN (of others 0)", Terms2Test::cap);
        sentence("DUE: BURDEN, or all CAPS of that LEVEL together, whichever is less", Terms2Test::dueIsTheLesser);
        sentence("RULE 0: DUE times CAP by all CAPS, rounded down", Terms2Test::byCaps);
        sentence("what is left then, one each, to those whose part lost most by rounding", Terms2Test::lostMost);
        sentence("of like ones to the least number first", Terms2Test::likeOnes);
        sentence("RULE 1: H is the greatest number, the greatest CAP at most", Terms2Test::greatestCapAtMost);
        sentence("for which all lesser ones of CAP and H make DUE at most together", Terms2Test::dueAtMost);
        sentence("each has the lesser one of CAP and H", Terms2Test::lesserOfCapAndH);
        sentence("what is left then, one each, to those with CAP above H, the least number first", Terms2Test::leftBehindSteps);
        sentence("(Without any CAP all are 0.)", Terms2Test::withoutAnyCap);
        sentence("TOTAL: all SHARES", Terms2Test::total);
        end();
    }

    private static void whoYields() {
        CoverRings x = lossOn(5, 10, 10, 10, 10, 10);
        for (int kind = PLAIN; kind <= ESCAPE; kind++) {
            x.clause(kind, kind, 0b10000);
        }
        dueOfEach("YIELDS", x, 0, YIELDS, 0, 0, 0b10000, 0b10000, 0);
        x.sub(2, 0, 0);
        dueOfEach("2 is not IN: YIELDS", x, 0, YIELDS, 0, 0, 0, 0b10000, 0);
        x.sub(2, 0, 1);
        dueOfEach("2 is just IN: YIELDS", x, 0, YIELDS, 0, 0, 0b10000, 0b10000, 0);
    }

    private static void toWhomItYields() {
        CoverRings x = eight(10);
        x.loss(0, 5);
        x.clause(4, EXCESS, 255);
        due("to all others", x.share(0, 4, YIELDS), 0b11101111);
        x.clause(4, EXCESS, 0);
        due("to none", x.share(0, 4, YIELDS), 0);
        x.clause(4, EXCESS, 0b10000001);
        due("to the first and the last", x.share(0, 4, YIELDS), 0b10000001);
        x.sub(7, 0, 0);
        due("the last is not IN", x.share(0, 4, YIELDS), 0b1);
        x.sub(0, 0, 1);
        due("the first is just IN", x.share(0, 4, YIELDS), 0b1);
        x.sub(0, 0, 0);
        due("none of them is IN", x.share(0, 4, YIELDS), 0);
    }

    private static void ringOfMoreThanOne() {
        CoverRings x = lossOn(5, 10, 10);
        x.clause(0, EXCESS, 0b11);
        due("one to another one: no RING", x.settled(0, RINGS), 0);
        due("RING of 0", x.share(0, 0, RING), 0);
        x.clause(1, ESCAPE, 0b11);
        due("two", x.settled(0, RINGS), 1);
        due("RING of 0", x.share(0, 0, RING), 0b11);
        due("RING of 1", x.share(0, 1, RING), 0b11);
        x.sub(1, 0, 0);
        due("one of them is not IN", x.settled(0, RINGS), 0);
        due("RING of 0", x.share(0, 0, RING), 0);
        due("RING of 1", x.share(0, 1, RING), 0);
        x.sub(1, 0, NONE);
        x.clause(1, RATEABLE, 0b11);
        due("one of them is RATEABLE", x.settled(0, RINGS), 0);
    }

    private static void ringOfAsManyAsCanBe() {
        CoverRings x = lossOn(5, 10, 10, 10, 10);
        x.clause(0, EXCESS, 0b0010);
        x.clause(1, EXCESS, 0b0101);
        x.clause(2, EXCESS, 0b1010);
        x.clause(3, EXCESS, 0b0100);
        due("three pairs, one beside the other, are one RING", x.settled(0, RINGS), 1);
        dueOfEach("RING", x, 0, RING, 15, 15, 15, 15);
        CoverRings all = eight(10);
        all.loss(0, 5);
        for (int p = 0; p < 8; p++) {
            all.clause(p, EXCESS, 255);
        }
        due("all 8: one RING", all.settled(0, RINGS), 1);
        due("RING of 7", all.share(0, 7, RING), 255);
        due("YIELDS in all", all.settled(0, ALL_YIELDS), 56);
        due("none of them TRULY", all.settled(0, ALL_TRULY), 0);
        for (int p = 0; p < 8; p++) {
            all.clause(p, EXCESS, 1 << (p ^ 1));
        }
        due("four pairs: the most RINGS that can be", all.settled(0, RINGS), 4);
        dueOfEach("RING", all, 0, RING, 3, 3, 12, 12, 48, 48, 192, 192);
    }

    private static void byWayOfOthers() {
        CoverRings x = eight(10);
        x.loss(0, 5);
        for (int p = 0; p < 8; p++) {
            x.clause(p, EXCESS, 1 << (p + 7) % 8);
        }
        due("by way of six others", x.settled(0, RINGS), 1);
        due("all 8", x.share(0, 3, RING), 255);
        x.clause(5, PLAIN, 0b10000);
        due("one of them is PLAIN: none", x.settled(0, RINGS), 0);
        x.clause(5, EXCESS, 0b10000000);
        due("back by way of one: 5, 7 and 6", x.share(0, 6, RING), 0b11100000);
        due("4 leads to them no more", x.share(0, 4, RING), 0);
        due("no other RING", x.settled(0, RINGS), 1);
        CoverRings oneWay = lossOn(5, 10, 10, 10);
        oneWay.clause(0, EXCESS, 0b110);
        oneWay.clause(1, EXCESS, 0b100);
        due("two ways there and none back", oneWay.settled(0, RINGS), 0);
    }

    private static void truly() {
        CoverRings x = lossOn(5, 10, 10, 10, 10, 10);
        x.clause(0, EXCESS, 0b00110);
        x.clause(1, EXCESS, 0b00001);
        x.clause(2, EXCESS, 0b01000);
        x.clause(3, EXCESS, 0b10100);
        dueOfEach("YIELDS", x, 0, YIELDS, 0b00110, 0b00001, 0b01000, 0b10100, 0);
        dueOfEach("to another RING, to one without a RING: TRULY", x, 0, TRULY, 0b00100, 0, 0, 0b10000, 0);
        due("YIELDS in all", x.settled(0, ALL_YIELDS), 6);
        due("TRULY in all", x.settled(0, ALL_TRULY), 2);
        x.clause(1, PLAIN, 0b00001);
        due("without the RING: all of them", x.share(0, 0, TRULY), 0b00110);
    }

    private static void levelNone() {
        CoverRings x = lossOn(5, 10, 10, 10);
        dueOfEach("PLAIN: LEVEL", x, 0, LEVEL, 0, 0, 0);
        x.clause(0, ESCAPE, 0b010);
        x.clause(1, EXCESS, 0b001);
        dueOfEach("in a RING alone: LEVEL", x, 0, LEVEL, 0, 0, 0);
        due("LEVELS", x.settled(0, LEVELS), 1);
        due("none is OUT in a RING alone", x.settled(0, OUT), 0);
        dueShares("like PLAIN ones", x, 0, 2, 2, 1);
    }

    private static void levelMore() {
        CoverRings chain = eight(10);
        chain.loss(0, 5);
        for (int p = 0; p < 7; p++) {
            chain.clause(p, EXCESS, 255 & ~0 << p + 1);
        }
        dueOfEach("each to all behind it: LEVEL", chain, 0, LEVEL, 7, 6, 5, 4, 3, 2, 1, 0);
        due("the most LEVELS", chain.settled(0, LEVELS), 8);
        chain.clause(0, EXCESS, 0b10000000);
        due("to the last alone", chain.share(0, 0, LEVEL), 1);
        chain.clause(0, EXCESS, 0b10100000);
        due("1 more than the greatest, not than the least", chain.share(0, 0, LEVEL), 3);
        CoverRings ring = lossOn(5, 10, 10, 10, 10);
        ring.clause(0, EXCESS, 0b0110);
        ring.clause(1, EXCESS, 0b0001);
        ring.clause(3, EXCESS, 0b0010);
        dueOfEach("each one of a RING has its own LEVEL", ring, 0, LEVEL, 1, 0, 0, 1);
        ring.clause(3, EXCESS, 0b0001);
        due("behind the one of the RING that is at 1", ring.share(0, 3, LEVEL), 2);
    }

    private static void out() {
        CoverRings x = lossOn(5, 10, 10, 10, 10);
        x.clause(1, ESCAPE, 0b0001);
        x.clause(2, ESCAPE, 0b0010);
        x.clause(3, ESCAPE, 0b0110);
        due("1 is; 2 yields to it alone; 3 yields to 2, too", x.settled(0, OUT), 0b1010);
        x.clause(3, ESCAPE, 0b0010);
        due("to one that is OUT alone", x.settled(0, OUT), 0b0010);
        x.clause(1, EXCESS, 0b0001);
        due("EXCESS is never OUT", x.settled(0, OUT), 0b1100);
        x.sub(0, 0, 0);
        x.clause(1, ESCAPE, 0b0001);
        due("nobody to yield to: not OUT", x.settled(0, OUT) & 0b0010, 0);
        CoverRings ring = lossOn(5, 10, 10, 10);
        ring.clause(0, ESCAPE, 0b010);
        ring.clause(1, ESCAPE, 0b001);
        due("to one of its own RING: not TRULY", ring.settled(0, OUT), 0);
        ring.clause(1, ESCAPE, 0b101);
        due("1 also to 2", ring.settled(0, OUT), 0b010);
        dueShares("0 and 2 pay", ring, 0, 3, 0, 2);
        CoverRings all = eight(10);
        all.loss(0, 5);
        for (int p = 0; p < 7; p++) {
            all.clause(p, ESCAPE, 0b10000000);
        }
        due("all but one", all.settled(0, OUT), 127);
        dueShares("the one pays all", all, 0, 0, 0, 0, 0, 0, 0, 0, 5);
    }

    private static void burden() {
        CoverRings x = lossOn(25, 10, 10, 10, 10);
        x.clause(1, EXCESS, 0b0001);
        x.clause(2, EXCESS, 0b0010);
        x.clause(3, EXCESS, 0b0100);
        dueOfEach("BURDEN", x, 0, BURDEN, 25, 15, 5, 0);
        dueShares("each as far as it goes", x, 0, 10, 10, 5, 0);
        x.clause(1, ESCAPE, 0b0001);
        dueOfEach("one is OUT: BURDEN", x, 0, BURDEN, 25, 15, 15, 5);
        CoverRings exact = lossOn(10, 10, 10);
        exact.clause(1, EXCESS, 1);
        due("nothing is left", exact.share(0, 1, BURDEN), 0);
        CoverRings one = lossOn(11, 10, 10);
        one.clause(1, EXCESS, 1);
        due("one is left", one.share(0, 1, BURDEN), 1);
        dueShares("one is left", one, 0, 10, 1);
    }

    private static void cap() {
        CoverRings x = new CoverRings();
        x.policy(60, MOST, 0, 0, 1);
        x.policy(60, MOST, 10, 120, 1);
        x.policy(60, MOST, 0, 0, 1);
        x.policy(60, MOST, 0, 0, 2);
        x.clause(1, EXCESS, 0b0001);
        x.clause(2, ESCAPE, 0b0001);
        x.loss(0, 100);
        dueOfEach("LONE", x, 0, LONE, 60, 40, 60, 0);
        dueOfEach("CAP: 40 * 60 / 120 - 10; OUT: 0; not IN: 0", x, 0, CAP, 60, 10, 0, 0);
        CoverRings least = new CoverRings();
        least.policy(60, MOST, 0, 0, 1);
        least.policy(60, MOST, 10, 0, 1);
        least.clause(1, EXCESS, 1);
        least.loss(0, 70);
        due("BURDEN is DEDUCTIBLE", least.share(0, 1, CAP), 0);
        due("it is IN all the same", least.settled(0, IN), 0b11);
        least.loss(0, 71);
        due("BURDEN is one above DEDUCTIBLE", least.share(1, 1, CAP), 1);
    }

    private static void dueIsTheLesser() {
        int[] amounts = {29, 30, 31};
        int[] totals = {29, 30, 30};
        for (int rule = 0; rule <= 1; rule++) {
            for (int i = 0; i < amounts.length; i++) {
                CoverRings x = lossOn(amounts[i], 10, 20);
                if (rule == 1) {
                    x.rule();
                }
                due("CAPS 30 of " + amounts[i], x.settled(0, TOTAL), totals[i]);
                due("CAPS 30 of " + amounts[i] + ", the first", x.share(0, 0, SHARE), 10);
                due("CAPS 30 of " + amounts[i] + ", the second", x.share(0, 1, SHARE), totals[i] - 10);
            }
        }
    }

    private static void byCaps() {
        dueShares("nothing is lost", lossOn(30, 10, 20, 30), 0, 5, 10, 15);
        dueShares("the least DUE", lossOn(1, 10, 20, 30), 0, 1, 0, 0);
        dueShares("the least CAP", lossOn(MILLION, 1, MILLION), 0, 1, 999_999);
        dueShares("the greatest of all", lossOn(MILLION, MILLION, MILLION, MILLION), 0, 333_334, 333_333, 333_333);
        CoverRings all = eight(MILLION);
        all.loss(0, MILLION);
        dueShares("all 8 with the greatest", all, 0, 125_000, 125_000, 125_000, 125_000, 125_000, 125_000, 125_000, 125_000);
    }

    private static void lostMost() {
        dueShares("of 23: 5 and 5, 4 and 4, 2 and 14 parts", lossOn(12, 10, 8, 5), 0, 5, 4, 3);
        dueShares("of 21: 3 and 7, 2 and 18, 3 and 17 parts", lossOn(10, 7, 6, 8), 0, 3, 3, 4);
        dueShares("who lost nothing has none", lossOn(10, 10, 5, 5), 0, 5, 3, 2);
        dueShares("the most that can be left: seven", lossOn(7, 7, 7, 7, 7, 7, 7, 7, 7), 0, 1, 1, 1, 1, 1, 1, 1, 0);
    }

    private static void likeOnes() {
        dueShares("two", lossOn(5, 5, 5), 0, 3, 2);
        dueShares("two have one of three", lossOn(2, 1, 1, 1), 0, 1, 1, 0);
        dueShares("two behind another one, of 23: 1 and 7, 4 and 8, 4 and 8 parts", lossOn(10, 3, 10, 10), 0, 1, 5, 4);
        dueShares("of other CAPS: 1 and 4, 4 and 4 parts", lossOn(6, 2, 6), 0, 2, 4);
        dueShares("of other CAPS, the greater one first", lossOn(6, 6, 2), 0, 5, 1);
    }

    private static CoverRings inSteps(int amount, int... limits) {
        CoverRings x = lossOn(amount, limits);
        x.rule();
        return x;
    }

    private static void greatestCapAtMost() {
        due("one below all CAPS", inSteps(29, 10, 20).step(0, 0), 19);
        due("all CAPS", inSteps(30, 10, 20).step(0, 0), 20);
        due("one above all CAPS", inSteps(31, 10, 20).step(0, 0), 20);
        due("far above all CAPS", inSteps(MILLION, 10, 20).step(0, 0), 20);
        due("the least CAP", inSteps(MILLION, 1).step(0, 0), 1);
        due("the greatest CAP", inSteps(MILLION, MILLION).step(0, 0), MILLION);
    }

    private static void dueAtMost() {
        int[] amounts = {1, 2, 3, 20, 21, 27, 28, 29};
        int[] heights = {0, 0, 1, 6, 7, 9, 9, 10};
        for (int i = 0; i < amounts.length; i++) {
            due("H for " + amounts[i], inSteps(amounts[i], 10, 10, 9).step(0, 0), heights[i]);
        }
        due("7 among 8", inSteps(7, 7, 7, 7, 7, 7, 7, 7, 7).step(0, 0), 0);
        due("8 among 8", inSteps(8, 8, 8, 8, 8, 8, 8, 8, 8).step(0, 0), 1);
        CoverRings most = eight(MILLION);
        most.loss(0, MILLION);
        due("the greatest among 8", most.step(0, 0), 125_000);
        due("one of 8 is small: 1000000 less 1, by 7", inSteps(MILLION, 1, MILLION, MILLION, MILLION, MILLION, MILLION, MILLION,
                MILLION).step(0, 0), 142_857);
    }

    private static void lesserOfCapAndH() {
        dueShares("all are above H", inSteps(18, 10, 10, 9), 0, 6, 6, 6);
        dueShares("one is below H", inSteps(15, 1, 10, 10), 0, 1, 7, 7);
        dueShares("one is H", inSteps(21, 7, 10, 10), 0, 7, 7, 7);
        dueShares("each one's step is another", inSteps(21, 3, 6, 12), 0, 3, 6, 12);
        dueShares("the last one takes the rest", inSteps(20, 3, 6, 12), 0, 3, 6, 11);
    }

    private static void leftBehindSteps() {
        dueShares("one to the first", inSteps(28, 10, 10, 9), 0, 10, 9, 9);
        dueShares("not to one whose CAP is H", inSteps(28, 9, 10, 10), 0, 9, 10, 9);
        dueShares("not to one whose CAP is below H", inSteps(12, 3, 5, 5), 0, 3, 5, 4);
        dueShares("two among three", inSteps(9, 1, 9, 9, 9), 0, 1, 3, 3, 2);
        dueShares("H is 0", inSteps(2, 2, 2, 2), 0, 1, 1, 0);
        dueShares("the most that can be left: seven", inSteps(7, 7, 7, 7, 7, 7, 7, 7, 7), 0, 1, 1, 1, 1, 1, 1, 1, 0);
    }

    private static void withoutAnyCap() {
        for (int rule = 0; rule <= 1; rule++) {
            CoverRings out = lossOn(100, 10, 20, 30);
            out.clause(1, ESCAPE, 0b001);
            out.clause(2, ESCAPE, 0b001);
            CoverRings nothingLeft = lossOn(10, 10, 20, 30);
            nothingLeft.clause(1, EXCESS, 0b001);
            nothingLeft.clause(2, EXCESS, 0b001);
            CoverRings nobody = limits(10);
            nobody.loss(1, 10);
            if (rule == 1) {
                out.rule();
                nothingLeft.rule();
                nobody.rule();
            }
            dueShares("all of the LEVEL are OUT", out, 0, 10, 0, 0);
            due("H of it", out.step(0, 1), 0);
            dueShares("no BURDEN", nothingLeft, 0, 10, 0, 0);
            due("H of it", nothingLeft.step(0, 1), 0);
            dueShares("none is IN", nobody, 0, 0);
            due("TOTAL", nobody.settled(0, TOTAL), 0);
        }
    }

    private static void total() {
        CoverRings x = lossOn(45, 10, 20, 30);
        x.clause(2, EXCESS, 0b011);
        due("of two LEVELS", x.settled(0, TOTAL), 45);
        dueShares("of two LEVELS", x, 0, 10, 20, 15);
        CoverRings none = new CoverRings();
        none.loss(0, 45);
        due("without any POLICIES", none.settled(0, TOTAL), 0);
        CoverRings most = eight(MILLION);
        most.loss(0, MILLION);
        due("never above the AMOUNT", most.settled(0, TOTAL), MILLION);
        CoverRings deducted = new CoverRings();
        deducted.policy(100, MOST, 1, 0, 1);
        deducted.loss(0, 100);
        due("less than the AMOUNT", deducted.settled(0, TOTAL), 99);
    }
}
