/** Terms, 3: claims, recovery, who is broke, what is over, sets, drawers, at the bounds of each sentence. */
final class Terms3Test extends Checks {
    public static void main(String[] args) {
        sentence("A CLAIM: digits to the base 9: the lowest digit is 1 more than the first one, and so on", Terms3Test::digits);
        sentence("till a digit 0 (all behind it are 0, too)", Terms3Test::tillADigit0);
        sentence("none twice", Terms3Test::noneTwice);
        sentence("one that is PLAIN pays LONE, another one its SHARE", Terms3Test::plainPaysLone);
        sentence("but no more than TOTAL less what was paid till then", Terms3Test::noMoreThanTotal);
        sentence("(of those that are not in the row 0)", Terms3Test::notInTheRow);
        sentence("BALANCE of a POLICY: FIRST less SHARE; of the INSURED (told as number 8): all FIRSTS less TOTAL", Terms3Test::balance);
        sentence("as long as the BALANCE of any POLICY is below 0, the one of these with the least number pays", Terms3Test::leastNumberPays);
        sentence("the INSURED, if that one's BALANCE is below 0", Terms3Test::insuredFirst);
        sentence("else the POLICY with the least number of those with a BALANCE above 0", Terms3Test::leastNumberIsPaid);
        sentence("as much as both allow", Terms3Test::asMuchAsBothAllow);
        sentence("BROKE are some POLICIES, as bits: they pay nothing", Terms3Test::brokePayNothing);
        sentence("What they would have paid as SHARES is the GAP", Terms3Test::gap);
        sentence("ROOM of one that is PLAIN and not BROKE: LONE less SHARE", Terms3Test::room);
        sentence("As much of the GAP as all ROOMS together have is made good", Terms3Test::madeGood);
        sentence("shared by RULE, that being DUE, ROOMS being CAPS", Terms3Test::sharedByRule);
        sentence("the INSURED LACKS the rest", Terms3Test::lacksTheRest);
        sentence("PREMIUM of a POLICY, 0 to 99999 (0 at first)", Terms3Test::premium);
        sentence("WORTH of an ITEM, 0 to 9000000 (0 at first: not told)", Terms3Test::worth);
        sentence("OVER of an ITEM whose WORTH is told: LIMITS of all POLICIES that have it, less WORTH, 0 at least", Terms3Test::over);
        sentence("RETURN: PREMIUM times OVER by those LIMITS together, rounded down", Terms3Test::returnOfAPolicy);
        sentence("A SET's TOTAL: were just the POLICIES of a set there (numbers as they are)", Terms3Test::aSetsTotal);
        sentence("(a SET's TOTAL) all LOSSES SETTLED so", Terms3Test::allLossesSettledSo);
        sentence("SHAPLEY of a POLICY: over all orders in which all POLICIES could come", Terms3Test::shapley);
        sentence("DRAWERS 0 to 3: one for each kind of CLAUSE, with 8 places", Terms3Test::drawers);
        sentence("a POLICY's number and CLAUSE as it was when it was put there, if its kind is that of the DRAWER", Terms3Test::asItWas);
        end();
    }

    private static void dueFirsts(String state, CoverRings x, long row, int... firsts) {
        int sum = 0;
        for (int p = 0; p < firsts.length; p++) {
            due(state + ": FIRST of " + p, x.claimed(0, row, p), firsts[p]);
            sum += firsts[p];
        }
        due(state + ": FIRSTS", x.claimed(0, row, NONE), sum);
    }

    private static void digits() {
        CoverRings x = claims();
        dueFirsts("row 1: 0 alone", x, 1, 400, 0, 0, 0);
        dueFirsts("row 4: 3 alone", x, 4, 0, 0, 0, 0);
        dueFirsts("row 19: 0, then 1", x, 1 + 2 * 9, 400, 200, 0, 0);
        dueFirsts("row 11: 1, then 0", x, 2 + 1 * 9, 0, 600, 0, 0);
        dueFirsts("row 3 + 9 + 2 * 81: 2, then 0, then 1", x, 3 + 9 + 2 * 81, 400, 100, 100, 0);
        CoverRings all = lossOn(36, 1, 2, 3, 4, 5, 6, 7, 8);
        dueFirsts("all 8, the last one first", all, row(7, 6, 5, 4, 3, 2, 1, 0), 1, 2, 3, 4, 5, 6, 7, 8);
        dueFirsts("all 8, the greatest number that can be", all, row(0, 1, 2, 3, 4, 5, 6, 7), 1, 2, 3, 4, 5, 6, 7, 8);
        dueFirsts("8 alone", all, 8, 0, 0, 0, 0, 0, 0, 0, 8);
        due("a digit of no POLICY: 5 where there are 4", x.claimed(0, 5, NONE), NONE);
        due("the greatest digit, 8", x.claimed(0, 8, NONE), NONE);
        due("a digit of no POLICY behind another one", x.claimed(0, 1 + 5 * 9, NONE), NONE);
        due("a number below 0", x.claimed(0, -1, NONE), NONE);
        due("the least number", x.claimed(0, Long.MIN_VALUE, NONE), NONE);
        due("the greatest number", all.claimed(0, Long.MAX_VALUE, NONE), NONE);
        due("beyond an int", all.claimed(0, 1L << 32 | 1, NONE), NONE);
    }

    private static void tillADigit0() {
        CoverRings x = claims();
        dueFirsts("a row of nobody", x, 0, 0, 0, 0, 0);
        due("a digit 0 and something behind it", x.claimed(0, 9, NONE), NONE);
        due("0, a digit 0, 1", x.claimed(0, 1 + 2 * 81, NONE), NONE);
        due("a digit 0 and something far behind it", x.claimed(0, 1 + 2 * 150094635296999121L, NONE), NONE);
        CoverRings all = lossOn(36, 1, 2, 3, 4, 5, 6, 7, 8);
        long eight = row(7, 6, 5, 4, 3, 2, 1, 0);
        due("all 8 and nothing behind", all.claimed(0, eight, NONE), 36);
        due("all 8 and one behind", all.claimed(0, eight + 43046721L, NONE), NONE);
        due("all 8, a digit 0, and one behind", all.claimed(0, eight + 9 * 43046721L, NONE), NONE);
    }

    private static void noneTwice() {
        CoverRings x = claims();
        for (int p = 0; p < 4; p++) {
            due(p + " twice", x.claimed(0, row(p, p), NONE), NONE);
            due(p + " twice with one between", x.claimed(0, row(p, (p + 1) % 4, p), NONE), NONE);
        }
        due("the last of all is the first one", x.claimed(0, row(0, 1, 2, 3, 0), NONE), NONE);
        due("all once", x.claimed(0, row(0, 1, 2, 3), NONE), 600);
        due("recovery behind it", x.recovery(0, row(3, 3), NONE, 0), NONE);
    }

    private static void plainPaysLone() {
        CoverRings x = lossOn(100, 100, 100, 100, 100);
        for (int kind = PLAIN; kind <= ESCAPE; kind++) {
            x.clause(kind, kind, 0);
        }
        for (int p = 0; p < 4; p++) {
            due("FIRST of kind " + p, x.claimed(0, row(p), p), p == PLAIN ? 100 : 25);
        }
        x.clause(1, PLAIN, 0b1111);
        due("PLAIN with a TO", x.claimed(0, row(1), 1), 100);
        x.clause(3, ESCAPE, 0b0001);
        due("one that is OUT", x.claimed(0, row(3), 3), 0);
        x.sub(0, 0, 0);
        due("PLAIN and not IN", x.claimed(0, row(0), 0), 0);
    }

    private static void noMoreThanTotal() {
        dueFirsts("the second has just what is left", lossOn(100, 60, 40), row(0, 1), 60, 40);
        dueFirsts("the second has one more", lossOn(100, 60, 41), row(0, 1), 60, 40);
        dueFirsts("the second has one less: TOTAL is 99", lossOn(100, 60, 39), row(0, 1), 60, 39);
        dueFirsts("one alone pays all", lossOn(100, 100, 100), row(0, 1), 100, 0);
        dueFirsts("in the other order", lossOn(100, 100, 100), row(1, 0), 0, 100);
        CoverRings rateable = lossOn(100, 100, 100, 100);
        rateable.clause(1, RATEABLE, 0);
        dueFirsts("a SHARE is cut, too", rateable, row(0, 1), 100, 0, 0);
        dueFirsts("a SHARE is cut in part: shares 34, 33, 33", rateable, row(1, 2), 0, 33, 67);
        CoverRings below = new CoverRings();
        below.policy(100, MOST, 10, 0, 1);
        below.policy(100, MOST, 0, 0, 1);
        below.clause(1, EXCESS, 1);
        below.loss(0, 100);
        dueFirsts("LONE is below TOTAL", below, row(0, 1), 90, 10);
    }

    private static void notInTheRow() {
        CoverRings x = claims();
        dueFirsts("1 alone", x, row(1), 0, 600, 0, 0);
        dueFirsts("2 alone", x, row(2), 0, 0, 100, 0);
        dueFirsts("asked again behind another row", x, 0, 0, 0, 0, 0);
    }

    private static void balance() {
        CoverRings x = lossOn(600, 600, 300);
        // SHARES 400 and 200
        duePayments("FIRST is SHARE for all: no BALANCE", lossOn(100, 60, 40), row(0, 1));
        duePayments("INSURED -600", x, 0, pays(0, INSURED, 400), pays(1, INSURED, 200));
        duePayments("0: 200, 1: -200, INSURED 0", x, row(0), pays(1, 0, 200));
        duePayments("0: -400, 1: 100, INSURED -300", x, row(1), pays(0, INSURED, 300), pays(0, 1, 100));
        duePayments("0: -100, 1: 100, INSURED 0", x, row(1, 0), pays(0, 1, 100));
        CoverRings nobody = limits(10);
        nobody.loss(1, 5);
        duePayments("TOTAL is 0", nobody, row(0));
    }

    private static void leastNumberPays() {
        CoverRings x = lossOn(80, 10, 10, 10, 10, 10, 10, 10, 10);
        duePayments("all 8, rising", x, 0, pays(0, 8, 10), pays(1, 8, 10), pays(2, 8, 10), pays(3, 8, 10), pays(4, 8, 10),
                pays(5, 8, 10), pays(6, 8, 10), pays(7, 8, 10));
        duePayments("those not in the row, rising", x, row(6, 0, 3), pays(1, 8, 10), pays(2, 8, 10), pays(4, 8, 10),
                pays(5, 8, 10), pays(7, 8, 10));
        duePayments("the last one alone", x, row(6, 5, 4, 3, 2, 1, 0), pays(7, 8, 10));
        duePayments("none is below 0", x, row(7, 6, 5, 4, 3, 2, 1, 0));
    }

    private static void insuredFirst() {
        CoverRings x = claims();
        duePayments("BALANCES 200, -300, -100, INSURED -200", x, row(0), pays(1, INSURED, 200), pays(1, 0, 100), pays(2, 0, 100));
        // SHARES 250, 250, 100; row: 1 pays 500
        CoverRings exact = lossOn(600, 500, 500, 200);
        duePayments("INSURED -100 ahead of the POLICY", exact, row(1), pays(0, INSURED, 100), pays(0, 1, 150), pays(2, 1, 100));
        CoverRings even = lossOn(600, 500, 300, 400);
        // SHARES 250, 150, 200; 0 pays 500: BALANCES 250, -150, -200, INSURED -100
        duePayments("the INSURED, then the POLICY", even, row(0), pays(1, INSURED, 100), pays(1, 0, 50), pays(2, 0, 200));
        CoverRings just = lossOn(600, 450, 150, 600);
        // SHARES 225, 75, 300; 0 pays 450: BALANCES 225, -75, -300, INSURED -150
        duePayments("the INSURED from two", just, row(0), pays(1, INSURED, 75), pays(2, INSURED, 75), pays(2, 0, 225));
    }

    private static void leastNumberIsPaid() {
        CoverRings x = lossOn(900, 450, 450, 450, 450);
        duePayments("225, 225, -225, -225", x, row(1, 0), pays(2, 0, 225), pays(3, 1, 225));
        duePayments("-225, 225, 225, -225", x, row(2, 1), pays(0, 1, 225), pays(3, 2, 225));
        duePayments("-225, -225, 225, 225", x, row(3, 2), pays(0, 2, 225), pays(1, 3, 225));
    }

    private static void asMuchAsBothAllow() {
        // SHARES 250, 200, 300, 150
        CoverRings x = lossOn(900, 500, 400, 600, 300);
        duePayments("who pays has more than who is paid", x, row(0, 1), pays(2, 0, 250), pays(2, 1, 50), pays(3, 1, 150));
        duePayments("who pays has less", x, row(2, 3), pays(0, 2, 250), pays(1, 2, 50), pays(1, 3, 150));
        duePayments("the INSURED has less: -500", x, row(1), pays(0, INSURED, 250), pays(2, INSURED, 250), pays(2, 1, 50), pays(3, 1, 150));
        CoverRings most = lossOn(80, 80, 10, 10, 10, 10, 10, 10, 10);
        // 80 of 150: 43 (42 and 2/3), 6 and 5: no more than seven payments to the one that paid
        due("seven pay the one", most.recovery(0, row(0), NONE, 0), 7);
        due("the last of them", most.recovery(0, row(0), 6, 0), 7);
    }

    private static void brokePayNothing() {
        CoverRings x = claims();
        for (int broke = 0; broke < 16; broke++) {
            for (int p = 0; p < 4; p++) {
                if ((broke >> p & 1) != 0) {
                    due(p + " of " + broke, x.broke(0, broke, p), 0);
                }
            }
        }
        due("none: 0 pays its SHARE", x.broke(0, 0, 0), 200);
        due("none: 1 pays its SHARE", x.broke(0, 0, 1), 300);
        due("none: 2 pays its SHARE", x.broke(0, 0, 2), 100);
        CoverRings all = eight(10);
        all.loss(0, 80);
        due("all 8", all.broke(0, 255, 7), 0);
        due("all 8: the INSURED lacks all", all.broke(0, 255, NONE), 80);
    }

    private static void gap() {
        CoverRings x = claims();
        due("3 has no SHARE: no GAP", x.broke(0, 0b1000, NONE), 0);
        due("3 has no SHARE: 0 pays no more", x.broke(0, 0b1000, 0), 200);
        due("1: 300, and ROOM 200 of 0", x.broke(0, 0b0010, NONE), 100);
        due("1 and 2: 400, and ROOM 200 of 0", x.broke(0, 0b0110, NONE), 200);
        due("all: TOTAL", x.broke(0, 0b1111, NONE), 600);
    }

    private static void room() {
        CoverRings x = lossOn(100, 100, 100, 100, 100, 100);
        for (int kind = RATEABLE; kind <= ESCAPE; kind++) {
            x.clause(kind, kind, 0);
        }
        // SHARES 20 each; ROOMS of 0 and 4: 80 each
        due("PLAIN", x.broke(0, 0b01110, 0), 50);
        due("PLAIN, the other", x.broke(0, 0b01110, 4), 50);
        due("RATEABLE has none", x.broke(0, 0b10001, 1), 20);
        due("EXCESS has none", x.broke(0, 0b10001, 2), 20);
        due("ESCAPE has none", x.broke(0, 0b10001, 3), 20);
        due("no ROOM at all", x.broke(0, 0b10001, NONE), 40);
        due("one that is BROKE has none", x.broke(0, 0b11110, 0), 100);
        due("one that is BROKE has none: lacks", x.broke(0, 0b11110, NONE), 0);
        x.sub(4, 0, 0);
        // SHARES 25 each of 0 to 3
        due("PLAIN and not IN has none", x.broke(0, 0b00010, 4), 0);
        due("the other has all", x.broke(0, 0b00010, 0), 50);
    }

    private static void madeGood() {
        // SHARES 50 and 50
        int[] limits = {60, 99, 100};
        int[] pays = {60, 99, 100};
        int[] lacks = {40, 1, 0};
        for (int i = 0; i < limits.length; i++) {
            CoverRings x = lossOn(100, limits[i], limits[i]);
            due("ROOM " + (limits[i] - 50) + " for a GAP of 50", x.broke(0, 0b10, 0), pays[i]);
            due("ROOM " + (limits[i] - 50) + " for a GAP of 50, lacks", x.broke(0, 0b10, NONE), lacks[i]);
        }
        CoverRings exact = lossOn(90, 60, 60, 60);
        // SHARES 30 each, ROOMS 30 and 30, GAP 30: half of the ROOMS
        due("more ROOM than GAP", exact.broke(0, 0b100, 0), 45);
        due("two BROKE: ROOM 30, GAP 60", exact.broke(0, 0b110, 0), 60);
        due("two BROKE: lacks", exact.broke(0, 0b110, NONE), 30);
        CoverRings noRoom = lossOn(100, 50, 50);
        due("no ROOM", noRoom.broke(0, 0b10, 0), 50);
        due("no ROOM, lacks", noRoom.broke(0, 0b10, NONE), 50);
    }

    private static void sharedByRule() {
        CoverRings x = lossOn(100, 100, 100, 100);
        x.clause(2, RATEABLE, 0);
        // SHARES 34, 33, 33; ROOMS 66 and 67 for a GAP of 33: 16 and 50 of 133, 16 and 83 of 133
        due("RULE 0", x.broke(0, 0b100, 0), 50);
        due("RULE 0", x.broke(0, 0b100, 1), 50);
        x.rule();
        // the same SHARES; H is 16, one is left for the least number
        due("RULE 1", x.broke(0, 0b100, 0), 51);
        due("RULE 1", x.broke(0, 0b100, 1), 49);
        CoverRings small = lossOn(100, 40, 100, 100);
        small.rule();
        // SHARES 34, 33, 33; ROOMS 6 and 67 for a GAP of 33
        due("RULE 1, one is full", small.broke(0, 0b100, 0), 40);
        due("RULE 1, the other takes the rest", small.broke(0, 0b100, 1), 60);
    }

    private static void lacksTheRest() {
        CoverRings x = lossOn(100, 70, 60);
        // SHARES 54 and 46
        dueShares("of 130", x, 0, 54, 46);
        due("1 BROKE: GAP 46, ROOM 16", x.broke(0, 0b10, NONE), 30);
        due("0 BROKE: GAP 54, ROOM 14", x.broke(0, 0b01, NONE), 40);
        due("both", x.broke(0, 0b11, NONE), 100);
        due("none", x.broke(0, 0, NONE), 0);
        CoverRings less = lossOn(200, 70, 60);
        due("of TOTAL, not of AMOUNT", less.broke(0, 0b11, NONE), 130);
    }

    private static void premium() {
        CoverRings x = eight(10);
        for (int p = 0; p < 8; p++) {
            due("at first", x.of(p, 9), 0);
        }
        due("0 is so", x.value(false, 7, 0), false);
        for (int good : new int[] {1, 99_998, 99_999, 0}) {
            due("PREMIUM " + good, x.value(false, 7, good), true);
            due("PREMIUM, told again", x.of(7, 9), good);
        }
        for (int bad : new int[] {-1, 100_000, LEAST_INT, GREATEST_INT}) {
            unchanging(Checks::some, "PREMIUM " + bad, 0, y -> bit(y.value(false, 0, bad)));
        }
    }

    private static void worth() {
        CoverRings x = eight(10);
        for (int item = 0; item < 8; item++) {
            due("at first not told", x.returned(NONE, item), NONE);
        }
        due("0 is so", x.value(true, 0, 0), false);
        for (int good : new int[] {1, MOST - 1, MOST}) {
            due("WORTH " + good, x.value(true, 0, good), true);
            due("OVER", x.returned(NONE, 0), Math.max(0, 80 - good));
        }
        due("WORTH 0 again", x.value(true, 0, 0), true);
        due("not told any more", x.returned(NONE, 0), NONE);
        for (int bad : new int[] {-1, MOST + 1, LEAST_INT, GREATEST_INT}) {
            unchanging(Checks::some, "WORTH " + bad, 0, y -> bit(y.value(true, 0, bad)));
        }
    }

    private static void over() {
        CoverRings x = new CoverRings();
        x.policy(600, 1, 0, 0, 0b011);
        x.policy(400, 1, 0, 0, 0b001);
        x.policy(250, 1, 0, 0, 0b010);
        int[] worths = {1, 999, 1000, 1001, MOST};
        int[] overs = {999, 1, 0, 0, 0};
        for (int i = 0; i < worths.length; i++) {
            x.value(true, 0, worths[i]);
            due("WORTH " + worths[i] + " of LIMITS 1000", x.returned(NONE, 0), overs[i]);
        }
        x.value(true, 1, 800);
        due("LIMITS 850 of another ITEM", x.returned(NONE, 1), 50);
        x.limit(2, 199);
        due("LIMITS 799", x.returned(NONE, 1), 0);
        x.value(true, 2, 800);
        due("nobody has the ITEM", x.returned(NONE, 2), 0);
        CoverRings most = eight(MILLION);
        most.value(true, 0, 1);
        due("the greatest OVER", most.returned(NONE, 0), 7_999_999);
        most.value(true, 0, 7_999_999);
        due("the least OVER of the greatest LIMITS", most.returned(NONE, 0), 1);
        CoverRings nobody = new CoverRings();
        nobody.value(true, 7, 1);
        due("no POLICIES", nobody.returned(NONE, 7), 0);
    }

    private static void returnOfAPolicy() {
        CoverRings x = limits(600, 400);
        x.value(true, 0, 700);
        int[] premiums = {0, 3, 4, 6, 7, 10, 99_999};
        int[] returns = {0, 0, 1, 1, 2, 3, 29_999};
        for (int i = 0; i < premiums.length; i++) {
            x.value(false, 1, premiums[i]);
            due(premiums[i] + " * 300 / 1000", x.returned(1, 0), returns[i]);
        }
        x.value(true, 0, 1000);
        due("nothing is OVER", x.returned(1, 0), 0);
        CoverRings most = eight(MILLION);
        most.value(false, 0, 99_999);
        most.value(true, 0, 1);
        due("99999 * 7999999 / 8000000", most.returned(0, 0), 99_998);
        most.value(true, 0, 4_000_000);
        due("99999 / 2", most.returned(0, 0), 49_999);
    }

    private static void aSetsTotal() {
        CoverRings x = lossOn(1000, 100, 200, 300);
        x.clause(2, ESCAPE, 0b001);
        int[] totals = {0, 100, 200, 300, 300, 100, 500, 300};
        for (int set = 0; set < 8; set++) {
            due("set " + set, x.set(0, set), totals[set]);
        }
        x.clause(2, ESCAPE, 0b010);
        due("2 yields to 1, not to what would come in its place", x.set(0, 0b101), 400);
        due("2 yields to 1", x.set(0, 0b110), 200);
        CoverRings all = eight(10);
        all.loss(0, 80);
        due("all 8", all.set(0, 255), 80);
        due("the last one alone", all.set(0, 128), 10);
        due("none", all.set(0, 0), 0);
    }

    private static void allLossesSettledSo() {
        CoverRings x = new CoverRings();
        x.policy(100, 100, 0, 0, 1);
        x.policy(100, 100, 0, 0, 1);
        for (int l = 0; l < 3; l++) {
            x.loss(0, 100);
        }
        due("both: first", x.set(0, 3), 100);
        due("both: second", x.set(1, 3), 100);
        due("both: third", x.set(2, 3), 0);
        due("one: first", x.set(0, 2), 100);
        due("one: second, nothing is left", x.set(1, 2), 0);
        due("without is that of all others", x.without(1, 0), 0);
    }

    private static void shapley() {
        due("one POLICY: one order", lossOn(5, 7).shapley(0, 0), 5);
        CoverRings two = lossOn(10, 8, 4);
        due("two: 8 first, 6 behind", two.shapley(0, 0), 8 + 6);
        due("two: 4 first, 2 behind", two.shapley(0, 1), 4 + 2);
        CoverRings less = lossOn(100, 10, 30);
        less.clause(1, ESCAPE, 1);
        due("when 0 comes behind 1, TOTAL is less", less.shapley(0, 0), 10 - 20);
        due("when 1 comes behind 0, nothing is more", less.shapley(0, 1), 30);
        CoverRings notIn = lossOn(5, 7, 7);
        notIn.sub(1, 0, 0);
        due("one that is not IN", notIn.shapley(0, 1), 0);
        CoverRings all = eight(MILLION);
        all.loss(0, MILLION);
        due("all 8, each first in 5040 orders: beyond an int", all.shapley(0, 0), 5_040_000_000L);
        CoverRings apart = eight(MILLION / 8);
        apart.loss(0, MILLION);
        due("all 8, each as much in all 40320 orders", apart.shapley(0, 7), 40_320L * 125_000);
        CoverRings mixed = full();
        long sum = 0;
        for (int p = 0; p < 8; p++) {
            sum += mixed.shapley(9, p);
        }
        due("all POLICIES together: TOTAL in each order", sum, 40_320L * mixed.settled(9, TOTAL));
    }

    private static void drawers() {
        CoverRings x = eight(10);
        for (int drawer = 0; drawer < 4; drawer++) {
            for (int place = 0; place < 8; place++) {
                due("nothing is there at first", x.filed(drawer, place, false), -2);
                x.clause(place, drawer, 20 * drawer + place);
                due("put", x.file(drawer, place, place), 0);
            }
        }
        for (int drawer = 0; drawer < 4; drawer++) {
            for (int place = 0; place < 8; place++) {
                due("each place has its own", x.filed(drawer, place, false), place);
                due("each place has its own TO", x.filed(drawer, place, true), 20 * drawer + place);
            }
        }
        for (int bad : new int[] {-1, 4, LEAST_INT, GREATEST_INT}) {
            unchanging(Checks::some, "drawer " + bad, NONE, y -> y.file(bad, 0, 0));
            unchanging(Checks::some, "what is in drawer " + bad, NONE, y -> y.filed(bad, 0, false));
        }
        for (int bad : new int[] {-1, 8, LEAST_INT, GREATEST_INT}) {
            unchanging(Checks::some, "place " + bad, NONE, y -> y.file(0, bad, 0));
            unchanging(Checks::some, "what is in place " + bad, NONE, y -> y.filed(0, bad, false));
        }
    }

    private static void asItWas() {
        CoverRings x = limits(10, 10);
        x.clause(0, EXCESS, 0b10);
        due("its kind is that of the DRAWER", x.file(EXCESS, 0, 0), 0);
        for (int drawer : new int[] {PLAIN, RATEABLE, ESCAPE}) {
            due("its kind is another one", x.file(drawer, 0, 0), -2);
            due("nothing was put", x.filed(drawer, 0, true), -2);
        }
        x.clause(0, EXCESS, 0b1000);
        due("TO as it was", x.filed(EXCESS, 0, true), 0b10);
        x.clause(0, PLAIN, 0);
        due("it stays behind another kind", x.filed(EXCESS, 0, false), 0);
        due("TO as it was, behind another kind", x.filed(EXCESS, 0, true), 0b10);
        due("now it is of another kind", x.file(EXCESS, 1, 0), -2);
        due("and of that one", x.file(PLAIN, 1, 0), 0);
        due("TO none", x.filed(PLAIN, 1, true), 0);
    }
}
