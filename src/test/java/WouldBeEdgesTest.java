/** Promises 23 to 30: what would be. Each sentence at its bounds; what would be changes nothing of what is. */
final class WouldBeEdgesTest extends Checks {
    public static void main(String[] args) {
        sentence("23: TOTAL of a LOSS, were a POLICY not there (its number staying empty)", WouldBeEdgesTest::without);
        sentence("23: all LOSSES SETTLED so", WouldBeEdgesTest::withoutAllLosses);
        sentence("23: NONE: there are none such", WouldBeEdgesTest::withoutNone);
        sentence("24: SHARE of a POLICY in a LOSS, were RULE the other one", WouldBeEdgesTest::other);
        sentence("24: all LOSSES SETTLED so", WouldBeEdgesTest::otherAllLosses);
        sentence("24: NONE: there are none such", WouldBeEdgesTest::otherNone);
        sentence("25: A SET's TOTAL", WouldBeEdgesTest::set);
        sentence("25: NONE: there is no such LOSS", WouldBeEdgesTest::setOfNoLoss);
        sentence("25: NONE: others than POLICIES", WouldBeEdgesTest::setOfOthers);
        sentence("26: SHAPLEY", WouldBeEdgesTest::shapley);
        sentence("26: NONE: there are none such", WouldBeEdgesTest::shapleyNone);
        sentence("27: RETURN of a POLICY for an ITEM", WouldBeEdgesTest::returned);
        sentence("27: or (policy NONE) OVER of the ITEM", WouldBeEdgesTest::returnedOver);
        sentence("27: NONE: WORTH is not told", WouldBeEdgesTest::returnedNotTold);
        sentence("27: NONE: there are none such", WouldBeEdgesTest::returnedNone);
        sentence("27: NONE: it has not that ITEM", WouldBeEdgesTest::returnedNotItsItem);
        sentence("28: The fewest POLICIES that would have to be PLAIN, so that a LOSS has no RING: how many", WouldBeEdgesTest::ringless);
        sentence("28: (those that are IN, YIELDS else as they are)", WouldBeEdgesTest::ringlessIn);
        sentence("28: or (bits) the least set of so many, as bits", WouldBeEdgesTest::ringlessBits);
        sentence("28: NONE: there is none such", WouldBeEdgesTest::ringlessNone);
        sentence("29: The fewest POLICIES of a CLAIM by which the INSURED has TOTAL by FIRSTS alone: how many", WouldBeEdgesTest::fewest);
        sentence("29: or (bits) the least set of so many, as bits", WouldBeEdgesTest::fewestBits);
        sentence("29: NONE: there is none such", WouldBeEdgesTest::fewestNone);
        sentence("30: How many POLICIES have another SHARE of a LOSS", WouldBeEdgesTest::moved);
        sentence("30: were the CLAUSE of one of them another kind, TO the same", WouldBeEdgesTest::movedToTheSame);
        sentence("30: NONE: there are none such", WouldBeEdgesTest::movedNone);
        sentence("30: NONE: no such kind", WouldBeEdgesTest::movedNoSuchKind);
        sentence("what would be changes nothing of what is", WouldBeEdgesTest::nothingChanges);
        end();
    }

    private static void without() {
        due("the only one", lossOn(5, 10).without(0, 0), 0);
        CoverRings x = lossOn(100, 10, 20, 30);
        x.clause(2, ESCAPE, 0b001);
        due("without the one that 2 yields to", x.without(0, 0), 50);
        due("without 1", x.without(0, 1), 10);
        due("without the one that is OUT", x.without(0, 2), 30);
        x.clause(2, ESCAPE, 0b010);
        due("2 does not yield to what would come in its place", x.without(0, 1), 40);
        CoverRings all = eight(10);
        all.loss(0, 75);
        due("the last of 8", all.without(0, 7), 70);
        due("the first of 8", all.without(0, 0), 70);
        all.sub(3, 0, 0);
        due("one that is not IN", all.without(0, 3), 70);
    }

    private static void withoutAllLosses() {
        CoverRings x = new CoverRings();
        x.policy(10, 10, 0, 0, 1);
        x.policy(10, 25, 0, 0, 1);
        x.loss(0, 10);
        x.loss(0, 10);
        x.loss(0, 10);
        // both: 5 and 5, 3 and 7, 2 and 8; the second alone: 10, 10, 5
        due("the first LOSS", x.without(0, 0), 10);
        due("the second LOSS", x.without(1, 0), 10);
        due("the third LOSS", x.without(2, 0), 5);
        due("the first POLICY alone, second LOSS", x.without(1, 1), 0);
    }

    private static void withoutNone() {
        for (int loss : NO_LOSS_OF_TWO) {
            unchanging(Checks::some, "no LOSS " + loss, NONE, x -> x.without(loss, 0));
        }
        for (int p : NO_POLICY_OF_THREE) {
            unchanging(Checks::some, "no POLICY " + p, NONE, x -> x.without(0, p));
        }
        due("no POLICY 8 of all", full().without(9, 8), NONE);
        due("no LOSS 10 of all", full().without(10, 7), NONE);
    }

    private static void other() {
        CoverRings x = lossOn(24, 10, 20);
        due("RULE 0: 0 by RULE 1", x.other(0, 0), 10);
        due("RULE 0: 1 by RULE 1", x.other(0, 1), 14);
        x.rule();
        due("RULE 1: 0 by RULE 0", x.other(0, 0), 8);
        due("RULE 1: 1 by RULE 0", x.other(0, 1), 16);
        due("alone", lossOn(5, 10).other(0, 0), 5);
        CoverRings all = eight(7);
        all.loss(0, 7);
        due("the first of 8", all.other(0, 0), 1);
        due("the last of 8", all.other(0, 7), 0);
        all.loss(1, 7);
        due("not IN", all.other(1, 0), 0);
    }

    private static void otherAllLosses() {
        CoverRings x = new CoverRings();
        x.policy(10, 10, 0, 0, 1);
        x.policy(30, 30, 0, 0, 1);
        x.loss(0, 20);
        x.loss(0, 20);
        // RULE 0: 7 and 13, then all that is left, 3 and 17; RULE 1: 10 and 10, then 0 and 20
        dueShares("by RULE 0", x, 1, 3, 17);
        due("by RULE 1 nothing is left", x.other(1, 0), 0);
        due("by RULE 1 the other pays all", x.other(1, 1), 20);
    }

    private static void otherNone() {
        for (int loss : NO_LOSS_OF_TWO) {
            unchanging(Checks::some, "no LOSS " + loss, NONE, x -> x.other(loss, 0));
        }
        for (int p : NO_POLICY_OF_THREE) {
            unchanging(Checks::some, "no POLICY " + p, NONE, x -> x.other(0, p));
        }
        due("no POLICY 8 of all", full().other(9, 8), NONE);
        due("no LOSS 10 of all", full().other(10, 7), NONE);
    }

    private static void set() {
        CoverRings x = eight(10);
        x.loss(0, 75);
        due("none", x.set(0, 0), 0);
        due("one", x.set(0, 1), 10);
        due("the last one", x.set(0, 128), 10);
        due("seven", x.set(0, 127), 70);
        due("all 8", x.set(0, 255), 75);
        CoverRings nobody = new CoverRings();
        nobody.loss(0, 5);
        due("none of none", nobody.set(0, 0), 0);
    }

    private static void setOfNoLoss() {
        for (int loss : NO_LOSS_OF_TWO) {
            unchanging(Checks::some, "no LOSS " + loss, NONE, x -> x.set(loss, 1));
        }
        due("no LOSS 10 of all", full().set(10, 0), NONE);
        due("LOSS 9 of all", full().set(9, 0), 0);
    }

    private static void setOfOthers() {
        for (int bad : new int[] {8, 9, 15, 128, 255, 256, -1, LEAST_INT, GREATEST_INT}) {
            unchanging(Checks::some, "set " + bad + " of three", NONE, x -> x.set(0, bad));
        }
        for (int bad : new int[] {256, 257, -1}) {
            due("set " + bad + " of all", full().set(0, bad), NONE);
        }
        CoverRings nobody = new CoverRings();
        nobody.loss(0, 5);
        due("set 1 of none", nobody.set(0, 1), NONE);
    }

    private static void shapley() {
        due("one alone", lossOn(MILLION, MILLION).shapley(0, 0), MILLION);
        CoverRings three = lossOn(100, 50, 60, 70);
        // 0: first in 2 orders 50; behind 1: 40; behind 2: 30; last in 2 orders: 0
        due("0 of three", three.shapley(0, 0), 2 * 50 + 40 + 30);
        due("1 of three", three.shapley(0, 1), 2 * 60 + 50 + 30);
        due("2 of three", three.shapley(0, 2), 2 * 70 + 50 + 40);
        CoverRings less = lossOn(MILLION, 1, MILLION);
        less.clause(1, ESCAPE, 1);
        due("below 0: 1 first, 1 less 1000000 behind", less.shapley(0, 0), 1 + 1 - MILLION);
        CoverRings used = new CoverRings();
        used.policy(10, 10, 0, 0, 1);
        used.policy(10, 10, 0, 0, 1);
        used.loss(0, 10);
        used.loss(0, 10);
        due("all LOSSES SETTLED so: nothing when first, 10 behind the other", used.shapley(1, 0), 10);
    }

    private static void shapleyNone() {
        for (int loss : NO_LOSS_OF_TWO) {
            unchanging(Checks::some, "no LOSS " + loss, NONE, x -> x.shapley(loss, 0));
        }
        for (int p : NO_POLICY_OF_THREE) {
            unchanging(Checks::some, "no POLICY " + p, NONE, x -> x.shapley(0, p));
        }
        due("no POLICY 8 of all", full().shapley(9, 8), NONE);
        due("no LOSS 10 of all", full().shapley(10, 7), NONE);
    }

    private static CoverRings over(int worth, int... premiums) {
        CoverRings x = new CoverRings();
        for (int p = 0; p < premiums.length; p++) {
            x.policy(100, 1, 0, 0, p == 0 ? 0b10000001 : 1);
            x.value(false, p, premiums[p]);
        }
        x.value(true, 0, worth);
        return x;
    }

    private static void returned() {
        due("9 * 100 / 200", over(100, 9, 7).returned(0, 0), 4);
        due("7 * 100 / 200", over(100, 9, 7).returned(1, 0), 3);
        due("no PREMIUM", over(100, 9, 0).returned(1, 0), 0);
        due("nothing is OVER", over(200, 9, 7).returned(0, 0), 0);
        due("one is OVER: 199 / 200", over(199, 199, 7).returned(0, 0), 0);
        due("one is OVER: 200 / 200", over(199, 200, 7).returned(0, 0), 1);
        due("WORTH above all", over(201, 99_999, 7).returned(0, 0), 0);
        due("WORTH 1: 200 * 199 / 200", over(1, 200, 7).returned(0, 0), 199);
        CoverRings last = over(100, 9, 7);
        last.value(true, 7, 50);
        due("ITEM 7: 9 * 50 / 100", last.returned(0, 7), 4);
        CoverRings least = limits(1);
        least.value(true, 0, 1);
        least.value(false, 0, 5);
        due("LIMITS of 1: 5 * 0 / 1", least.returned(0, 0), 0);
    }

    private static void returnedOver() {
        due("OVER", over(150, 9, 7).returned(NONE, 0), 50);
        due("OVER, whoever has a PREMIUM", over(150, 0, 0).returned(NONE, 0), 50);
        due("none OVER", over(200, 9, 7).returned(NONE, 0), 0);
        due("one OVER", over(199, 9, 7).returned(NONE, 0), 1);
        due("WORTH above all", over(201, 9, 7).returned(NONE, 0), 0);
        due("nobody has the ITEM", over(5).returned(NONE, 0), 0);
    }

    private static void returnedNotTold() {
        CoverRings x = over(0, 9, 7);
        due("RETURN", x.returned(0, 0), NONE);
        due("OVER", x.returned(NONE, 0), NONE);
        x.value(true, 1, 5);
        due("WORTH of another ITEM", x.returned(0, 0), NONE);
        x.value(true, 0, 1);
        due("the least WORTH: 9 * 199 / 200", x.returned(0, 0), 8);
        x.value(true, 0, 0);
        due("not told any more", x.returned(0, 0), NONE);
    }

    private static void returnedNone() {
        for (int p : NO_POLICY_NOR_NONE) {
            unchanging(Checks::some, "no POLICY " + p, NONE, x -> x.returned(p, 0));
        }
        for (int item : NO_ITEM) {
            unchanging(Checks::some, "no ITEM " + item, NONE, x -> x.returned(0, item));
            unchanging(Checks::some, "no ITEM " + item + ", OVER", NONE, x -> x.returned(NONE, item));
        }
        due("no POLICY 8 of all", full().returned(8, 7), NONE);
        due("POLICY 7 of all: 77 * 180 / 1080", full().returned(7, 7), 12);
    }

    private static void returnedNotItsItem() {
        CoverRings x = over(100, 9, 7);
        x.value(true, 7, 50);
        x.value(true, 3, 50);
        due("1 has not ITEM 7", x.returned(1, 7), NONE);
        due("0 has it", x.returned(0, 7), 4);
        due("nobody has ITEM 3", x.returned(0, 3), NONE);
    }

    /** Each policy EXCESS, TO these. */
    private static CoverRings excess(int... tos) {
        CoverRings x = new CoverRings();
        for (int p = 0; p < tos.length; p++) {
            x.policy(10, MOST, 0, 0, 1);
            x.clause(p, EXCESS, tos[p]);
        }
        x.loss(0, 5);
        return x;
    }

    private static void ringless() {
        due("no RING", excess(0b10, 0).ringless(0, false), 0);
        due("no RING: all 8, each to the next", excess(2, 4, 8, 16, 32, 64, 128, 0).ringless(0, false), 0);
        due("no RING: all 8, each to the one ahead", excess(0, 1, 2, 4, 8, 16, 32, 64).ringless(0, false), 0);
        due("no RING: all 8, each to all behind it", excess(254, 252, 248, 240, 224, 192, 128, 0).ringless(0, false), 0);
        due("a pair", excess(0b10, 0b01).ringless(0, false), 1);
        due("a RING of all 8", excess(2, 4, 8, 16, 32, 64, 128, 1).ringless(0, false), 1);
        due("four pairs", excess(2, 1, 8, 4, 32, 16, 128, 64).ringless(0, false), 4);
        due("three, each to each", excess(7, 7, 7).ringless(0, false), 2);
        due("all 8, each to each: seven", excess(255, 255, 255, 255, 255, 255, 255, 255).ringless(0, false), 7);
        due("without POLICIES", excess().ringless(0, false), 0);
        due("one alone, TO itself", excess(1).ringless(0, false), 0);
    }

    private static void ringlessIn() {
        CoverRings x = excess(7, 7, 7);
        x.sub(0, 0, 0);
        due("one is not IN", x.ringless(0, false), 1);
        due("one is not IN, the least set", x.ringless(0, true), 0b010);
        x.sub(2, 0, 0);
        due("one alone is IN", x.ringless(0, false), 0);
        x.loss(1, 5);
        due("none is IN", x.ringless(1, false), 0);
        CoverRings rateable = excess(7, 7, 7);
        rateable.clause(2, RATEABLE, 7);
        due("one is RATEABLE", rateable.ringless(0, true), 1);
        CoverRings escape = excess(7, 7, 7);
        escape.clause(0, ESCAPE, 7);
        due("ESCAPE makes RINGS, too", escape.ringless(0, false), 2);
    }

    private static void ringlessBits() {
        due("no RING", excess(0b10, 0).ringless(0, true), 0);
        due("a pair", excess(0b10, 0b01).ringless(0, true), 1);
        due("the last pair of 8", excess(0, 0, 0, 0, 0, 0, 128, 64).ringless(0, true), 64);
        due("the last one is in two RINGS", excess(0b100, 0b100, 0b011).ringless(0, true), 0b100);
        due("all 8, each to each", excess(255, 255, 255, 255, 255, 255, 255, 255).ringless(0, true), 127);
        due("four pairs", excess(2, 1, 8, 4, 32, 16, 128, 64).ringless(0, true), 0b01010101);
        due("0 with 3 and 1 with 2", excess(0b1000, 0b0100, 0b0010, 0b0001).ringless(0, true), 0b0011);
        due("fewer ahead of a lesser set: 3 with 0, with 1 and with 2", excess(8, 8, 8, 7).ringless(0, true), 0b1000);
    }

    private static void ringlessNone() {
        for (int loss : NO_LOSS_OF_TWO) {
            unchanging(Checks::some, "no LOSS " + loss, NONE, x -> x.ringless(loss, false));
            unchanging(Checks::some, "no LOSS " + loss + ", bits", NONE, x -> x.ringless(loss, true));
        }
        due("no LOSS 10 of all", full().ringless(10, true), NONE);
    }

    private static void fewest() {
        due("one is enough", lossOn(10, 10, 10).fewest(0, false), 1);
        due("one is just short", lossOn(10, 9, 9).fewest(0, false), 2);
        CoverRings all = eight(10);
        all.loss(0, 80);
        due("all 8", all.fewest(0, false), 8);
        all.loss(0, 79);
        due("all 8, for one less", all.fewest(1, false), 8);
        all.loss(0, 70);
        due("seven", all.fewest(2, false), 7);
        all.loss(1, 70);
        due("TOTAL is 0", all.fewest(3, false), 0);
        CoverRings rateable = lossOn(10, 10, 10);
        rateable.clause(0, RATEABLE, 0);
        due("the PLAIN one alone", rateable.fewest(0, true), 2);
        rateable.clause(1, RATEABLE, 0);
        due("both, each with its SHARE", rateable.fewest(0, false), 2);
        CoverRings nobody = new CoverRings();
        nobody.loss(0, 5);
        due("without POLICIES", nobody.fewest(0, false), 0);
        CoverRings beyond = lossOn(100, 10, 20);
        due("TOTAL, not AMOUNT", beyond.fewest(0, false), 2);
    }

    private static void fewestBits() {
        due("of like ones the least", lossOn(10, 10, 10, 10).fewest(0, true), 1);
        due("the last one alone is enough", lossOn(10, 9, 9, 10).fewest(0, true), 4);
        due("0 and 2 ahead of 1 and 2", lossOn(10, 4, 4, 6).fewest(0, true), 0b101);
        due("1 and 2, as 0 is too small", lossOn(10, 3, 4, 6).fewest(0, true), 0b110);
        due("0 and 1 are a lesser set than 0 and 3", lossOn(10, 5, 5, 1, 5).fewest(0, true), 0b011);
        CoverRings all = eight(10);
        all.loss(0, 80);
        due("all 8", all.fewest(0, true), 255);
        all.loss(0, 70);
        due("seven", all.fewest(1, true), 127);
        all.loss(1, 70);
        due("TOTAL is 0", all.fewest(2, true), 0);
    }

    private static void fewestNone() {
        for (int loss : NO_LOSS_OF_TWO) {
            unchanging(Checks::some, "no LOSS " + loss, NONE, x -> x.fewest(loss, false));
            unchanging(Checks::some, "no LOSS " + loss + ", bits", NONE, x -> x.fewest(loss, true));
        }
        due("no LOSS 10 of all", full().fewest(10, true), NONE);
    }

    private static void moved() {
        CoverRings all = eight(80);
        all.loss(0, 80);
        for (int p = 0; p < 8; p++) {
            all.clause(p, PLAIN, 255);
        }
        due("none: as it is", all.moved(0, 7, PLAIN), 0);
        due("none: RATEABLE", all.moved(0, 7, RATEABLE), 0);
        // 80 by 7: 12 for the first three, 11 for the others
        due("all 8: EXCESS", all.moved(0, 7, EXCESS), 8);
        due("all 8: ESCAPE", all.moved(0, 7, ESCAPE), 8);
        CoverRings one = lossOn(100, 10, 20);
        one.clause(1, PLAIN, 1);
        due("none: EXCESS pays as much", one.moved(0, 1, EXCESS), 0);
        due("one: ESCAPE pays nothing", one.moved(0, 1, ESCAPE), 1);
        one.loss(1, 100);
        due("none is IN", one.moved(1, 1, ESCAPE), 0);
    }

    private static void movedToTheSame() {
        CoverRings x = lossOn(10, 10, 10, 10);
        x.clause(2, RATEABLE, 0b010);
        x.sub(1, 0, 0);
        due("TO one that is not IN", x.moved(0, 2, ESCAPE), 0);
        x.clause(2, RATEABLE, 0b001);
        due("TO one that is", x.moved(0, 2, ESCAPE), 2);
        due("TO none", x.moved(0, 0, ESCAPE), 0);
        CoverRings used = new CoverRings();
        used.policy(10, 10, 0, 0, 1);
        used.policy(10, 10, 0, 0, 1);
        used.clause(1, PLAIN, 1);
        used.loss(0, 10);
        used.loss(0, 10);
        due("the LOSSES ahead, too: 5 and 5, then 0 and 10", used.moved(1, 1, EXCESS), 2);
    }

    private static void movedNone() {
        for (int loss : NO_LOSS_OF_TWO) {
            unchanging(Checks::some, "no LOSS " + loss, NONE, x -> x.moved(loss, 0, EXCESS));
        }
        for (int p : NO_POLICY_OF_THREE) {
            unchanging(Checks::some, "no POLICY " + p, NONE, x -> x.moved(0, p, EXCESS));
        }
        due("no POLICY 8 of all", full().moved(9, 8, PLAIN), NONE);
        due("no LOSS 10 of all", full().moved(10, 7, PLAIN), NONE);
    }

    private static void movedNoSuchKind() {
        for (int kind : new int[] {-1, 4, LEAST_INT, GREATEST_INT}) {
            unchanging(Checks::some, "kind " + kind, NONE, x -> x.moved(0, 0, kind));
        }
        for (int kind = PLAIN; kind <= ESCAPE; kind++) {
            due("kind " + kind + " is one", lossOn(5, 10).moved(0, 0, kind), 0);
        }
    }

    private static void nothingChanges() {
        // 1 and 2 are a RING, 2 yields to 0, too, and is OUT: 400 and 557 (650 * 600 / 700) share 650 in steps
        dueShares("some, LOSS 0", some(), 0, 325, 325, 0);
        unchanging(Checks::some, "without", 650, x -> x.without(0, 0));
        unchanging(Checks::some, "other", 272, x -> x.other(0, 0));
        unchanging(Checks::some, "set", 557, x -> x.set(0, 0b010));
        // 2 first: 300 twice; behind 0 nothing, behind 1 the 93 up to 650; last: nothing
        unchanging(Checks::some, "shapley", 693, x -> x.shapley(0, 2));
        unchanging(Checks::some, "returned", 99 * 500 / 1300, x -> x.returned(0, 0));
        unchanging(Checks::some, "ringless", 0b010, x -> x.ringless(0, true));
        unchanging(Checks::some, "fewest", 0b011, x -> x.fewest(0, true));
        unchanging(Checks::some, "moved, as it is", 0, x -> x.moved(0, 1, EXCESS));
        unchanging(Checks::some, "moved: 350, 0, 300", 3, x -> x.moved(0, 2, PLAIN));
        unchanging(Checks::some, "claimed", 650, x -> x.claimed(0, row(0, 1), NONE));
        unchanging(Checks::some, "recovery: 250 for the INSURED, 75 for 0", 2, x -> x.recovery(0, row(0), NONE, 0));
        unchanging(Checks::some, "broke: 325 less ROOM 75", 250, x -> x.broke(0, 0b010, NONE));
        unchanging(Checks::some, "step", 325, x -> x.step(0, 0));
        unchanging(Checks::some, "way", 3, x -> x.way(0, 1, 0, NONE));
    }
}
