/** Terms, 1: what a policy and a loss may be, and what a policy owes, at the bounds of each sentence. */
final class Terms1Test extends Checks {
    public static void main(String[] args) {
        sentence("POLICIES, at most 8, numbered from 0 on as they come", Terms1Test::atMostEight);
        sentence("LIMIT, 1 to 1000000", Terms1Test::limitOfAPolicy);
        sentence("AGGREGATE, 1 to 9000000", Terms1Test::aggregateOfAPolicy);
        sentence("DEDUCTIBLE, 0 to 99999", Terms1Test::deductibleOfAPolicy);
        sentence("VALUE, 0 to 9000000", Terms1Test::valueOfAPolicy);
        sentence("ITEMS, a set of 0 to 7 as bits, not empty", Terms1Test::itemsOfAPolicy);
        sentence("a CLAUSE: 0 PLAIN, 1 RATEABLE, 2 EXCESS, 3 ESCAPE", Terms1Test::kinds);
        sentence("TO, a set of POLICIES 0 to 7 as bits", Terms1Test::toIsASet);
        sentence("(also of such as are not there yet)", Terms1Test::toOfSuchAsAreNotThere);
        sentence("(itself doesn't count)", Terms1Test::itselfDoesNotCount);
        sentence("LOSSES, at most 10, numbered likewise", Terms1Test::atMostTen);
        sentence("an ITEM, 0 to 7", Terms1Test::itemOfALoss);
        sentence("an AMOUNT, 1 to 1000000", Terms1Test::amountOfALoss);
        sentence("RULE, 0 (at first) or 1", Terms1Test::ruleAtFirst);
        sentence("All are SETTLED anew, one LOSS behind the other, whenever it is asked", Terms1Test::settledAnew);
        sentence("LEFT of a POLICY ahead of a LOSS: AGGREGATE less its SHARES of all LOSSES ahead", Terms1Test::left);
        sentence("if VALUE is above LIMIT, A times LIMIT by VALUE, else A", Terms1Test::valueAboveLimit);
        sentence("rounded down", Terms1Test::roundedDown);
        sentence("less DEDUCTIBLE, 0 at least", Terms1Test::lessDeductible);
        sentence("at most LIMIT", Terms1Test::atMostLimit);
        sentence("at most its SUBLIMIT for the ITEM (if it has one: 0 to 1000000)", Terms1Test::atMostSublimit);
        sentence("at most LEFT", Terms1Test::atMostLeft);
        sentence("0, if the ITEM is not of its ITEMS", Terms1Test::notOfItsItems);
        sentence("LONE: what it owes for the AMOUNT", Terms1Test::lone);
        sentence("It is IN, if LONE is above 0", Terms1Test::in);
        end();
    }

    private static void atMostEight() {
        CoverRings x = new CoverRings();
        for (int p = 0; p < 8; p++) {
            due("policies ahead", x.count(0), p);
            due("policy " + p, x.policy(10 + p, 20 + p, p, 30 + p, 1 + p), p);
        }
        for (int p = 0; p < 8; p++) {
            due("LIMIT of " + p, x.of(p, 0), 10 + p);
            due("AGGREGATE of " + p, x.of(p, 1), 20 + p);
            due("DEDUCTIBLE of " + p, x.of(p, 2), p);
            due("VALUE of " + p, x.of(p, 3), 30 + p);
            due("ITEMS of " + p, x.of(p, 4), 1 + p);
        }
        unchanging(Checks::full, "a ninth", NONE, y -> y.policy(1, 1, 0, 0, 1));
        CoverRings wrongAhead = new CoverRings();
        wrongAhead.policy(0, 1, 0, 0, 1);
        due("a refused one has no number", wrongAhead.policy(1, 1, 0, 0, 1), 0);
    }

    /** One number of a policy: refused below and above its bounds, kept at them. */
    private static void bounds(int which, int least, int most) {
        for (int bad : new int[] {least - 1, most + 1, LEAST_INT, GREATEST_INT}) {
            unchanging(CoverRings::new, "a policy with " + bad, NONE, x -> with(x, which, bad));
            unchanging(Checks::some, "a fourth with " + bad, NONE, x -> with(x, which, bad));
        }
        for (int good : new int[] {least, least + 1, most - 1, most}) {
            CoverRings x = new CoverRings();
            due("a policy with " + good, with(x, which, good), 0);
            due("its number, told again", x.of(0, which), good);
        }
    }

    private static int with(CoverRings x, int which, int number) {
        int[] n = {1, 1, 0, 0, 1};
        n[which] = number;
        return x.policy(n[0], n[1], n[2], n[3], n[4]);
    }

    private static void limitOfAPolicy() {
        bounds(0, 1, MILLION);
    }

    private static void aggregateOfAPolicy() {
        bounds(1, 1, MOST);
    }

    private static void deductibleOfAPolicy() {
        bounds(2, 0, 99_999);
    }

    private static void valueOfAPolicy() {
        bounds(3, 0, MOST);
    }

    private static void itemsOfAPolicy() {
        bounds(4, 1, 255);
        for (int item = 0; item < 8; item++) {
            CoverRings x = new CoverRings();
            x.policy(10, 1000, 0, 0, 1 << item);
            x.policy(10, 1000, 0, 0, 255 - (1 << item));
            for (int i = 0; i < 8; i++) {
                x.loss(i, 4);
                due("item " + i + " of " + item, x.share(i, 0, LONE), i == item ? 4 : 0);
                due("item " + i + " of all but " + item, x.share(i, 1, LONE), i == item ? 0 : 4);
            }
        }
    }

    private static void kinds() {
        for (int kind = PLAIN; kind <= ESCAPE; kind++) {
            CoverRings x = lossOn(5, 10, 10);
            due("clause of kind " + kind, x.clause(0, kind, 0b10), true);
            due("kind, told again", x.of(0, 5), kind);
            due("it yields", x.settled(0, ALL_YIELDS), kind >= EXCESS ? 1 : 0);
            due("it is out", x.settled(0, OUT), kind == ESCAPE ? 1 : 0);
            due("what it pays when claimed on", x.claimed(0, row(0), NONE), new int[] {5, 3, 0, 0}[kind]);
        }
        for (int bad : new int[] {-1, 4, LEAST_INT, GREATEST_INT}) {
            unchanging(Checks::some, "a clause of kind " + bad, 0, x -> bit(x.clause(1, bad, 0b100)));
        }
    }

    private static void toIsASet() {
        for (int good : new int[] {0, 1, 128, 254, 255}) {
            CoverRings x = limits(10);
            x.clause(0, PLAIN, 77);
            due("TO " + good, x.clause(0, EXCESS, good), true);
            due("TO, told again", x.of(0, 6), good);
        }
        for (int bad : new int[] {-1, 256, 257, LEAST_INT, GREATEST_INT}) {
            unchanging(Checks::some, "TO " + bad, 0, x -> bit(x.clause(1, EXCESS, bad)));
        }
        CoverRings x = eight(10);
        x.loss(0, 10);
        x.clause(3, EXCESS, 0b10100101);
        due("0, 2, 5, 7 are TO", x.share(0, 3, YIELDS), 0b10100101);
    }

    private static void toOfSuchAsAreNotThere() {
        CoverRings x = limits(10);
        due("TO 7, which is not there", x.clause(0, EXCESS, 0b10000000), true);
        due("TO, told again", x.of(0, 6), 0b10000000);
        x.loss(0, 10);
        for (int p = 1; p < 8; p++) {
            due("nobody to yield to, with " + p + " policies", x.settled(0, ALL_YIELDS), 0);
            x.policy(10, 10, 0, 0, 1);
        }
        due("now 7 is there", x.share(0, 0, YIELDS), 0b10000000);
    }

    private static void itselfDoesNotCount() {
        for (int kind : new int[] {EXCESS, ESCAPE}) {
            CoverRings x = lossOn(5, 10, 10);
            x.clause(0, kind, 0b01);
            due("it yields to none", x.share(0, 0, YIELDS), 0);
            due("no RING of one", x.settled(0, RINGS), 0);
            due("not OUT", x.settled(0, OUT), 0);
            due("LEVEL", x.share(0, 0, LEVEL), 0);
            x.clause(0, kind, 0b11);
            due("it yields to the other alone", x.share(0, 0, YIELDS), 0b10);
            due("YIELDS in all", x.settled(0, ALL_YIELDS), 1);
        }
    }

    private static void atMostTen() {
        CoverRings x = limits(10);
        for (int l = 0; l < 10; l++) {
            due("losses ahead", x.count(1), l);
            due("loss " + l, x.loss(l % 8, 100 + l), l);
        }
        for (int l = 0; l < 10; l++) {
            due("ITEM of " + l, x.settled(l, 0), l % 8);
            due("AMOUNT of " + l, x.settled(l, 1), 100 + l);
        }
        unchanging(Checks::full, "an eleventh", NONE, y -> y.loss(0, 1));
        CoverRings wrongAhead = new CoverRings();
        wrongAhead.loss(8, 1);
        due("a refused one has no number", wrongAhead.loss(7, 1), 0);
    }

    private static void itemOfALoss() {
        for (int bad : new int[] {-1, 8, LEAST_INT, GREATEST_INT}) {
            unchanging(Checks::some, "a loss of item " + bad, NONE, x -> x.loss(bad, 5));
            unchanging(CoverRings::new, "the first loss of item " + bad, NONE, x -> x.loss(bad, 5));
        }
        for (int item = 0; item < 8; item++) {
            CoverRings x = new CoverRings();
            due("a loss of item " + item, x.loss(item, 5), 0);
            due("its item, told again", x.settled(0, 0), item);
        }
    }

    private static void amountOfALoss() {
        for (int bad : new int[] {0, -1, MILLION + 1, LEAST_INT, GREATEST_INT}) {
            unchanging(Checks::some, "a loss of " + bad, NONE, x -> x.loss(0, bad));
        }
        for (int good : new int[] {1, 2, MILLION - 1, MILLION}) {
            CoverRings x = limits(MILLION);
            due("a loss of " + good, x.loss(0, good), 0);
            due("its amount, told again", x.settled(0, 1), good);
            due("its total", x.settled(0, TOTAL), good);
        }
    }

    private static void ruleAtFirst() {
        CoverRings x = lossOn(12, 10, 20);
        due("at first", x.count(2), 0);
        dueShares("at first, 10 and 12 of 22", x, 0, 5, 7);
        due("the other one", x.rule(), 1);
        dueShares("in steps", x, 0, 6, 6);
        due("only 0 and 1", x.rule(), 0);
        due("only 0 and 1", x.rule(), 1);
    }

    private static void settledAnew() {
        CoverRings x = new CoverRings();
        x.policy(100, 150, 0, 0, 1);
        x.loss(0, 100);
        x.loss(0, 100);
        dueShares("loss 0", x, 0, 100);
        dueShares("loss 1", x, 1, 50);
        x.limit(0, 80);
        dueShares("loss 0 with another limit", x, 0, 80);
        dueShares("loss 1 has what is left then", x, 1, 70);
        x.policy(100, 100, 0, 0, 1);
        dueShares("one that comes behind the losses takes part, 80 and 100 of 180", x, 0, 44, 56);
        dueShares("and of the next loss, 80 and 44 of 124", x, 1, 65, 35);
        x.clause(1, ESCAPE, 1);
        dueShares("another clause, loss 0", x, 0, 80, 0);
        dueShares("another clause, loss 1", x, 1, 70, 0);
        x.sub(0, 0, 0);
        dueShares("a sublimit, loss 0", x, 0, 0, 100);
        dueShares("a sublimit, loss 1", x, 1, 0, 0);
        due("asked for the earlier one behind the later one", x.settled(0, TOTAL), 100);
        x.revoke();
        due("a loss less", x.of(1, 8), 100);
    }

    private static void left() {
        CoverRings x = new CoverRings();
        x.policy(40, 100, 0, 0, 0b01);
        due("without any loss", x.of(0, 7), 100);
        x.loss(0, 40);
        x.loss(1, 40);
        x.loss(0, 59);
        x.loss(0, 40);
        x.loss(0, 40);
        int[] ahead = {100, 60, 60, 20, 0};
        int[] shares = {40, 0, 40, 20, 0};
        for (int l = 0; l < 5; l++) {
            due("LEFT ahead of " + l, x.share(l, 0, LEFT), ahead[l]);
            due("SHARE of " + l, x.share(l, 0, SHARE), shares[l]);
        }
        due("LEFT behind all", x.of(0, 7), 0);
        CoverRings most = limits(MILLION);
        for (int l = 0; l < 10; l++) {
            most.loss(0, MILLION);
        }
        due("nine of the greatest use up the greatest AGGREGATE", most.share(8, 0, LEFT), MILLION);
        due("the ninth is paid", most.share(8, 0, SHARE), MILLION);
        due("the tenth finds nothing", most.share(9, 0, LEFT), 0);
        due("and is not paid", most.share(9, 0, SHARE), 0);
    }

    private static int loneWith(int limit, int deductible, int value, int amount) {
        CoverRings x = new CoverRings();
        x.policy(limit, MOST, deductible, value, 1);
        x.loss(0, amount);
        return x.share(0, 0, LONE);
    }

    private static void valueAboveLimit() {
        due("VALUE 0", loneWith(1000, 0, 0, 500), 500);
        due("VALUE one below LIMIT", loneWith(1000, 0, 999, 999), 999);
        due("VALUE far below LIMIT: A is not made more", loneWith(1000, 0, 500, 400), 400);
        due("the least VALUE above 0", loneWith(1000, 0, 1, 10), 10);
        due("VALUE is LIMIT", loneWith(1000, 0, 1000, 999), 999);
        due("VALUE one above LIMIT: 500 * 1000 / 1001", loneWith(1000, 0, 1001, 500), 499);
        due("VALUE twice LIMIT", loneWith(1000, 0, 2000, 500), 250);
        due("the greatest: 1000000 * 1000000 / 9000000", loneWith(MILLION, 0, MOST, MILLION), 111_111);
        due("the least LIMIT, the greatest VALUE", loneWith(1, 0, MOST, MILLION), 0);
        due("LIMIT 9 of VALUE 9000000, AMOUNT 1000000", loneWith(9, 0, MOST, MILLION), 1);
        CoverRings x = new CoverRings();
        x.policy(1000, MOST, 0, 1000, 1);
        x.loss(0, 500);
        x.limit(0, 999);
        due("LIMIT falls below VALUE: 500 * 999 / 1000", x.share(0, 0, LONE), 499);
        x.limit(0, 1001);
        due("LIMIT is above VALUE", x.share(0, 0, LONE), 500);
    }

    private static void roundedDown() {
        due("3 * 2 / 3", loneWith(2, 0, 3, 3), 2);
        due("4 * 2 / 3", loneWith(2, 0, 3, 4), 2);
        due("5 * 2 / 6", loneWith(2, 0, 6, 5), 1);
        due("2 * 2 / 5", loneWith(2, 0, 5, 2), 0);
        due("999999 * 999999 / 1000000", loneWith(999_999, 0, MILLION, 999_999), 999_998);
    }

    private static void lessDeductible() {
        due("DEDUCTIBLE one below the AMOUNT", loneWith(1000, 99, 0, 100), 1);
        due("DEDUCTIBLE is the AMOUNT", loneWith(1000, 100, 0, 100), 0);
        due("DEDUCTIBLE one above the AMOUNT", loneWith(1000, 101, 0, 100), 0);
        due("the greatest DEDUCTIBLE, the least AMOUNT", loneWith(1000, 99_999, 0, 1), 0);
        due("the greatest DEDUCTIBLE", loneWith(MILLION, 99_999, 0, MILLION), 900_001);
        due("ahead of LIMIT", loneWith(50, 30, 0, 100), 50);
        due("behind VALUE: 100 * 50 / 100 - 30", loneWith(50, 30, 100, 100), 20);
    }

    private static void atMostLimit() {
        due("AMOUNT one below LIMIT", loneWith(100, 0, 0, 99), 99);
        due("AMOUNT is LIMIT", loneWith(100, 0, 0, 100), 100);
        due("AMOUNT one above LIMIT", loneWith(100, 0, 0, 101), 100);
        due("the least LIMIT", loneWith(1, 0, 0, MILLION), 1);
        due("the greatest LIMIT", loneWith(MILLION, 0, 0, MILLION), MILLION);
        due("by VALUE above it: 300 * 100 / 200", loneWith(100, 0, 200, 300), 100);
    }

    private static void atMostSublimit() {
        CoverRings x = lossOn(100, 500);
        int[] subs = {0, 1, 99, 100, 101, MILLION};
        int[] lones = {0, 1, 99, 100, 100, 100};
        for (int i = 0; i < subs.length; i++) {
            due("SUBLIMIT " + subs[i], x.sub(0, 0, subs[i]), true);
            due("LONE with SUBLIMIT " + subs[i], x.share(0, 0, LONE), lones[i]);
        }
        x.sub(0, 0, NONE);
        due("LONE without one", x.share(0, 0, LONE), 100);
        for (int item = 1; item < 8; item++) {
            x.sub(0, item, 3);
        }
        due("SUBLIMITS for other ITEMS", x.share(0, 0, LONE), 100);
        x.policy(500, MOST, 0, 0, 1);
        x.sub(1, 0, 7);
        due("SUBLIMIT of another policy", x.share(0, 0, LONE), 100);
        CoverRings behind = new CoverRings();
        behind.policy(500, MOST, 10, 0, 1);
        behind.sub(0, 0, 60);
        behind.loss(0, 65);
        due("DEDUCTIBLE is taken off ahead of SUBLIMIT", behind.share(0, 0, LONE), 55);
    }

    private static void atMostLeft() {
        int[] aggregates = {1, 149, 150, 151, 199, 200, 201};
        int[] lones = {1, 100, 100, 100, 100, 100, 100};
        int[] then = {0, 49, 50, 51, 99, 100, 100};
        for (int i = 0; i < aggregates.length; i++) {
            CoverRings x = new CoverRings();
            x.policy(100, aggregates[i], 0, 0, 1);
            x.loss(0, 500);
            x.loss(0, 500);
            due("AGGREGATE " + aggregates[i], x.share(0, 0, LONE), lones[i]);
            due("AGGREGATE " + aggregates[i] + ", second loss", x.share(1, 0, LONE), then[i]);
        }
    }

    private static void notOfItsItems() {
        CoverRings x = new CoverRings();
        x.policy(100, 1000, 0, 0, 0b01111110);
        x.sub(0, 0, 50);
        for (int item = 0; item < 8; item++) {
            x.loss(item, 30);
            due("LONE for item " + item, x.share(item, 0, LONE), item == 0 || item == 7 ? 0 : 30);
            due("LEVEL for item " + item, x.share(item, 0, LEVEL), item == 0 || item == 7 ? NONE : 0);
        }
    }

    private static void lone() {
        CoverRings x = lossOn(90, 60, 80);
        x.clause(1, EXCESS, 1);
        due("for the AMOUNT, not for the BURDEN", x.share(0, 1, LONE), 80);
        due("CAP is for the BURDEN", x.share(0, 1, CAP), 30);
        x.clause(1, ESCAPE, 1);
        due("of one that is OUT", x.share(0, 1, LONE), 80);
    }

    private static void in() {
        CoverRings x = new CoverRings();
        x.policy(100, 1000, 19, 0, 1);
        x.policy(100, 1000, 20, 0, 1);
        x.policy(100, 1000, 21, 0, 1);
        x.policy(100, 20, 0, 0, 1);
        x.loss(0, 20);
        dueOfEach("LONE", x, 0, LONE, 1, 0, 0, 20);
        due("IN", x.settled(0, IN), 0b1001);
        CoverRings used = new CoverRings();
        used.policy(20, 20, 0, 0, 1);
        used.loss(0, 20);
        used.loss(0, 20);
        due("IN of the first", used.settled(0, IN), 1);
        due("nothing is left for the second", used.settled(1, IN), 0);
    }
}
