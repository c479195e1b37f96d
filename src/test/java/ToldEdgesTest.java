/** Promises 1 to 11: what there is. Each sentence at its bounds, and that what is refused changes nothing. */
final class ToldEdgesTest extends Checks {
    public static void main(String[] args) {
        sentence("NONE = -1: There is none", ToldEdgesTest::none);
        sentence("An object is used for at most 512 calls after it has been made", ToldEdgesTest::usedFor512Calls);
        sentence("1: A new object, beside others", ToldEdgesTest::besideOthers);
        sentence("1: No POLICIES", ToldEdgesTest::noPolicies);
        sentence("1: no LOSSES", ToldEdgesTest::noLosses);
        sentence("2: A POLICY comes, PLAIN, TO none", ToldEdgesTest::aPolicyComes);
        sentence("2: its number", ToldEdgesTest::itsNumber);
        sentence("2: NONE: a number that can't be", ToldEdgesTest::aNumberThatCannotBe);
        sentence("2: NONE: there are 8", ToldEdgesTest::thereAreEight);
        sentence("3: A POLICY has another CLAUSE, TO those (bits): true", ToldEdgesTest::anotherClause);
        sentence("3: false: there is none such", ToldEdgesTest::clauseOfNone);
        sentence("3: false: it has", ToldEdgesTest::clauseThatItHas);
        sentence("3: false: it can't be", ToldEdgesTest::clauseThatCannotBe);
        sentence("4: LIMIT of a POLICY is another one: true", ToldEdgesTest::anotherLimit);
        sentence("4: false: likewise", ToldEdgesTest::limitRefused);
        sentence("5: SUBLIMIT of a POLICY for an ITEM is a number: true", ToldEdgesTest::aSublimit);
        sentence("5: or (NONE) there is none any more: true", ToldEdgesTest::noSublimitAnyMore);
        sentence("5: false: there are none such", ToldEdgesTest::sublimitOfNone);
        sentence("5: false: it is so", ToldEdgesTest::sublimitIsSo);
        sentence("5: false: it can't be", ToldEdgesTest::sublimitCannotBe);
        sentence("6: PREMIUM of a POLICY is another number: true", ToldEdgesTest::anotherPremium);
        sentence("6: or (worth) WORTH of an ITEM: true", ToldEdgesTest::anotherWorth);
        sentence("6: false: likewise", ToldEdgesTest::valueRefused);
        sentence("7: A LOSS comes: its number", ToldEdgesTest::aLossComes);
        sentence("7: NONE: a number that can't be", ToldEdgesTest::lossThatCannotBe);
        sentence("7: NONE: there are 10", ToldEdgesTest::thereAreTen);
        sentence("8: The latest LOSS was none: how many are left", ToldEdgesTest::revoke);
        sentence("8: NONE: there is none", ToldEdgesTest::revokeNone);
        sentence("9: RULE is the other one: which it is then", ToldEdgesTest::rule);
        sentence("10: What 0: POLICIES, 1: LOSSES, 2: RULE", ToldEdgesTest::countWhatThereIs);
        sentence("10: 3: TOTAL of all LOSSES together", ToldEdgesTest::countTotals);
        sentence("10: 4: AMOUNTS together", ToldEdgesTest::countAmounts);
        sentence("10: 5: POLICIES that have nothing LEFT behind all LOSSES, as bits", ToldEdgesTest::countUsedUp);
        sentence("10: NONE for another what", ToldEdgesTest::countAnotherWhat);
        sentence("11: what 0: LIMIT .. 6: TO", ToldEdgesTest::ofWhatWasTold);
        sentence("11: 7: what is LEFT behind all LOSSES, 8: all its SHARES", ToldEdgesTest::ofLeft);
        sentence("11: 9: PREMIUM", ToldEdgesTest::ofPremium);
        sentence("11: 10: the LOSS behind which nothing is LEFT (NONE)", ToldEdgesTest::ofUsedUpBy);
        sentence("11: 20 + i: its SUBLIMIT for ITEM i, 0 to 7 (NONE)", ToldEdgesTest::ofSublimit);
        sentence("11: NoSuchElementException: there is none such", ToldEdgesTest::ofNone);
        sentence("11: NoSuchElementException: another what", ToldEdgesTest::ofAnotherWhat);
        end();
    }

    private static void none() {
        due("NONE", CoverRings.NONE, -1);
    }

    /** The last call of all is answered like an early one, whatever came ahead of it. */
    private static void usedFor512Calls() {
        CoverRings early = full();
        CoverRings late = full();
        // 43 calls made it; RULE changes 232 times, and so is what it was
        for (int call = 44; call <= 509; call++) {
            if (call % 2 == 0 && call < 508) {
                late.rule();
            } else {
                late.shapley(9, call % 8);
            }
        }
        due("call 510", late.count(2), 0);
        due("call 511", late.settled(9, TOTAL), early.settled(9, TOTAL));
        due("call 512", late.shapley(9, 7), early.shapley(9, 7));
    }

    private static void besideOthers() {
        CoverRings other = full();
        CoverRings x = new CoverRings();
        due("it has nothing of the other's", picture(x).equals(picture(new CoverRings())), true);
        due("no POLICIES", x.count(0), 0);
        x.policy(5, 5, 0, 0, 1);
        x.rule();
        x.value(true, 3, 77);
        x.file(0, 1, 0);
        due("the other has nothing of it", picture(other).equals(picture(full())), true);
    }

    private static void noPolicies() {
        CoverRings x = new CoverRings();
        due("count(0)", x.count(0), 0);
        due("the first one's number", x.policy(1, 1, 0, 0, 1), 0);
        for (int p : new int[] {0, 1, 7}) {
            unchanging(CoverRings::new, "clause", 0, y -> bit(y.clause(p, EXCESS, 1)));
            unchanging(CoverRings::new, "limit", 0, y -> bit(y.limit(p, 5)));
            unchanging(CoverRings::new, "sub", 0, y -> bit(y.sub(p, 0, 5)));
            unchanging(CoverRings::new, "value", 0, y -> bit(y.value(false, p, 5)));
            unchanging(CoverRings::new, "file", NONE, y -> y.file(0, 0, p));
            unchanging(CoverRings::new, "of", THROWN, y -> y.of(p, 0));
        }
        CoverRings lossAlone = new CoverRings();
        lossAlone.loss(0, 5);
        int[] settled = {0, 5, 0, 0, 0, 0, 0, 0, 0};
        for (int what = 0; what <= 8; what++) {
            due("a loss without policies, settled(0, " + what + ")", lossAlone.settled(0, what), settled[what]);
        }
        due("a claim on nobody", lossAlone.claimed(0, 0, NONE), 0);
        due("no RECOVERY", lossAlone.recovery(0, 0, NONE, 0), 0);
        due("none is BROKE", lossAlone.broke(0, 0, NONE), 0);
        due("a set of none", lossAlone.set(0, 0), 0);
        due("ringless", lossAlone.ringless(0, true), 0);
        due("fewest", lossAlone.fewest(0, true), 0);
        due("nothing is used up", lossAlone.count(5), 0);
    }

    private static void noLosses() {
        CoverRings x = new CoverRings();
        due("count(1)", x.count(1), 0);
        due("count(3)", x.count(3), 0);
        due("count(4)", x.count(4), 0);
        due("revoke()", x.revoke(), NONE);
        due("the first one's number", x.loss(0, 1), 0);
        CoverRings policyAlone = limits(10);
        due("LEFT", policyAlone.of(0, 7), MOST);
        due("settled(0, 0)", policyAlone.settled(0, 0), NONE);
        dueThrow("share(0, 0, 0)", policyAlone, y -> y.share(0, 0, 0));
    }

    private static void aPolicyComes() {
        CoverRings x = new CoverRings();
        x.loss(0, 10);
        x.clause(0, ESCAPE, 255);
        x.sub(0, 0, 3);
        x.value(false, 0, 3);
        x.policy(10, 20, 0, 0, 1);
        due("PLAIN", x.of(0, 5), PLAIN);
        due("TO none", x.of(0, 6), 0);
        due("PREMIUM", x.of(0, 9), 0);
        for (int item = 0; item < 8; item++) {
            due("no SUBLIMIT", x.of(0, 20 + item), NONE);
        }
        due("it takes part in the LOSS that was there", x.share(0, 0, SHARE), 10);
    }

    private static void itsNumber() {
        CoverRings x = new CoverRings();
        for (int p = 0; p < 8; p++) {
            due("a wrong one between", x.policy(1, 1, 0, 0, 256), NONE);
            due("number", x.policy(1, 1, 0, 0, 1), p);
        }
    }

    private static void aNumberThatCannotBe() {
        int[] least = {1, 1, 0, 0, 1};
        int[] most = {MILLION, MOST, 99_999, MOST, 255};
        for (int which = 0; which < 5; which++) {
            for (int bad : new int[] {least[which] - 1, most[which] + 1}) {
                int[] n = most.clone();
                n[which] = bad;
                unchanging(Checks::some, "number " + which + " is " + bad, NONE, x -> x.policy(n[0], n[1], n[2], n[3], n[4]));
            }
        }
        CoverRings x = some();
        due("the least of all", x.policy(1, 1, 0, 0, 1), 3);
        due("the greatest of all", x.policy(MILLION, MOST, 99_999, MOST, 255), 4);
    }

    private static void thereAreEight() {
        CoverRings x = limits(1, 1, 1, 1, 1, 1, 1);
        due("the eighth", x.policy(1, 1, 0, 0, 1), 7);
        due("a ninth", x.policy(1, 1, 0, 0, 1), NONE);
        unchanging(Checks::full, "a ninth", NONE, y -> y.policy(MILLION, MOST, 99_999, MOST, 255));
    }

    private static void anotherClause() {
        CoverRings x = eight(10);
        due("another kind", x.clause(7, EXCESS, 0), true);
        due("another TO", x.clause(7, EXCESS, 255), true);
        due("both", x.clause(7, ESCAPE, 128), true);
        due("back", x.clause(7, PLAIN, 0), true);
        due("of the first", x.clause(0, RATEABLE, 1), true);
        due("kind of the first", x.of(0, 5), RATEABLE);
        due("TO of the first", x.of(0, 6), 1);
        for (int p = 1; p < 8; p++) {
            due("the others keep theirs", x.of(p, 5) + x.of(p, 6), 0);
        }
    }

    private static void clauseOfNone() {
        for (int p : NO_POLICY_OF_THREE) {
            unchanging(Checks::some, "clause(" + p + ", ..)", 0, x -> bit(x.clause(p, EXCESS, 1)));
        }
    }

    private static void clauseThatItHas() {
        unchanging(Checks::some, "PLAIN, TO none", 0, x -> bit(x.clause(0, PLAIN, 0)));
        unchanging(Checks::some, "EXCESS as it is", 0, x -> bit(x.clause(1, EXCESS, 0b100)));
        unchanging(Checks::some, "ESCAPE as it is", 0, x -> bit(x.clause(2, ESCAPE, 0b1011)));
    }

    private static void clauseThatCannotBe() {
        for (int kind : new int[] {-1, 4, LEAST_INT, GREATEST_INT}) {
            unchanging(Checks::some, "kind " + kind, 0, x -> bit(x.clause(0, kind, 1)));
        }
        for (int to : new int[] {-1, 256, LEAST_INT, GREATEST_INT}) {
            unchanging(Checks::some, "TO " + to, 0, x -> bit(x.clause(0, EXCESS, to)));
        }
    }

    private static void anotherLimit() {
        CoverRings x = eight(10);
        for (int limit : new int[] {1, 2, MILLION - 1, MILLION}) {
            due("limit(7, " + limit + ")", x.limit(7, limit), true);
            due("LIMIT of 7", x.of(7, 0), limit);
            due("LIMIT of 6", x.of(6, 0), 10);
        }
        due("above AGGREGATE is fine", some().limit(2, 301), true);
    }

    private static void limitRefused() {
        for (int p : NO_POLICY_OF_THREE) {
            unchanging(Checks::some, "there is no " + p, 0, x -> bit(x.limit(p, 5)));
        }
        unchanging(Checks::some, "it has", 0, x -> bit(x.limit(0, 400)));
        for (int bad : new int[] {0, -1, MILLION + 1, LEAST_INT, GREATEST_INT}) {
            unchanging(Checks::some, "LIMIT " + bad, 0, x -> bit(x.limit(0, bad)));
        }
    }

    private static void aSublimit() {
        CoverRings x = eight(10);
        for (int v : new int[] {0, 1, MILLION - 1, MILLION, 0}) {
            due("sub(7, 7, " + v + ")", x.sub(7, 7, v), true);
            due("told again", x.of(7, 27), v);
        }
        due("of the first", x.sub(0, 0, 5), true);
        due("of an ITEM that it has not", x.sub(0, 3, 6), true);
        for (int p = 0; p < 8; p++) {
            for (int item = 0; item < 8; item++) {
                int want = p == 7 && item == 7 ? 0 : p == 0 && item == 0 ? 5 : p == 0 && item == 3 ? 6 : NONE;
                due("SUBLIMIT of " + p + " for " + item, x.of(p, 20 + item), want);
            }
        }
    }

    private static void noSublimitAnyMore() {
        CoverRings x = lossOn(8, 10);
        x.sub(0, 0, 0);
        due("none any more behind 0", x.sub(0, 0, NONE), true);
        due("none, told again", x.of(0, 20), NONE);
        due("LONE without", x.share(0, 0, LONE), 8);
        due("again there is one", x.sub(0, 0, MILLION), true);
        due("none any more behind the greatest", x.sub(0, 0, NONE), true);
    }

    private static void sublimitOfNone() {
        for (int p : NO_POLICY_OF_THREE) {
            unchanging(Checks::some, "there is no policy " + p, 0, x -> bit(x.sub(p, 0, 5)));
        }
        for (int item : NO_ITEM) {
            unchanging(Checks::some, "there is no item " + item, 0, x -> bit(x.sub(1, item, 5)));
            unchanging(Checks::some, "there is no item " + item + ", NONE", 0, x -> bit(x.sub(1, item, NONE)));
        }
    }

    private static void sublimitIsSo() {
        unchanging(Checks::some, "250 as it is", 0, x -> bit(x.sub(0, 1, 250)));
        unchanging(Checks::some, "none as it is", 0, x -> bit(x.sub(0, 0, NONE)));
    }

    private static void sublimitCannotBe() {
        for (int bad : new int[] {-2, MILLION + 1, LEAST_INT, GREATEST_INT}) {
            unchanging(Checks::some, "SUBLIMIT " + bad, 0, x -> bit(x.sub(0, 1, bad)));
        }
    }

    private static void anotherPremium() {
        CoverRings x = eight(10);
        for (int v : new int[] {1, 99_999, 0}) {
            due("value(false, 7, " + v + ")", x.value(false, 7, v), true);
            due("PREMIUM of 7", x.of(7, 9), v);
            due("PREMIUM of 6", x.of(6, 9), 0);
        }
        x.value(false, 0, 44);
        due("no WORTH was told by it", x.returned(NONE, 0), NONE);
    }

    private static void anotherWorth() {
        CoverRings x = new CoverRings();
        x.policy(100, 1, 0, 0, 255);
        for (int item = 0; item < 8; item++) {
            due("value(true, " + item + ", ..)", x.value(true, item, 90 - item), true);
        }
        for (int item = 0; item < 8; item++) {
            due("OVER of " + item, x.returned(NONE, item), 10 + item);
        }
        due("the greatest", x.value(true, 7, MOST), true);
        due("the least", x.value(true, 7, 1), true);
        due("not told", x.value(true, 7, 0), true);
        due("no PREMIUM was told by it", x.of(0, 9), 0);
    }

    private static void valueRefused() {
        for (int p : NO_POLICY_OF_THREE) {
            unchanging(Checks::some, "there is no policy " + p, 0, x -> bit(x.value(false, p, 5)));
        }
        for (int item : NO_ITEM) {
            unchanging(Checks::some, "there is no item " + item, 0, x -> bit(x.value(true, item, 5)));
        }
        unchanging(Checks::some, "PREMIUM as it is", 0, x -> bit(x.value(false, 0, 99)));
        unchanging(Checks::some, "PREMIUM 0 as it is", 0, x -> bit(x.value(false, 1, 0)));
        unchanging(Checks::some, "WORTH as it is", 0, x -> bit(x.value(true, 0, 800)));
        unchanging(Checks::some, "WORTH 0 as it is", 0, x -> bit(x.value(true, 7, 0)));
        for (int bad : new int[] {-1, 100_000, LEAST_INT, GREATEST_INT}) {
            unchanging(Checks::some, "PREMIUM " + bad, 0, x -> bit(x.value(false, 0, bad)));
        }
        for (int bad : new int[] {-1, MOST + 1, LEAST_INT, GREATEST_INT}) {
            unchanging(Checks::some, "WORTH " + bad, 0, x -> bit(x.value(true, 0, bad)));
        }
    }

    private static void aLossComes() {
        CoverRings x = new CoverRings();
        for (int l = 0; l < 10; l++) {
            due("a wrong one between", x.loss(0, 0), NONE);
            due("number", x.loss(7 - l % 8, l % 2 == 0 ? 1 : MILLION), l);
        }
        for (int l = 0; l < 10; l++) {
            due("ITEM", x.settled(l, 0), 7 - l % 8);
            due("AMOUNT", x.settled(l, 1), l % 2 == 0 ? 1 : MILLION);
        }
    }

    private static void lossThatCannotBe() {
        for (int item : NO_ITEM) {
            unchanging(Checks::some, "item " + item, NONE, x -> x.loss(item, 5));
        }
        for (int bad : new int[] {0, -1, MILLION + 1, LEAST_INT, GREATEST_INT}) {
            unchanging(Checks::some, "amount " + bad, NONE, x -> x.loss(0, bad));
        }
    }

    private static void thereAreTen() {
        CoverRings x = new CoverRings();
        for (int l = 0; l < 9; l++) {
            x.loss(0, 1);
        }
        due("the tenth", x.loss(0, 1), 9);
        due("an eleventh", x.loss(0, 1), NONE);
        unchanging(Checks::full, "an eleventh", NONE, y -> y.loss(7, MILLION));
        x.revoke();
        due("a tenth again", x.loss(5, 77), 9);
        due("its ITEM", x.settled(9, 0), 5);
        due("its AMOUNT", x.settled(9, 1), 77);
    }

    private static void revoke() {
        CoverRings x = full();
        for (int left = 9; left >= 0; left--) {
            due("how many are left", x.revoke(), left);
            due("count(1)", x.count(1), left);
            due("there is no such loss any more", x.settled(left, 0), NONE);
        }
        due("the policies stay", x.count(0), 8);
        due("nothing is used up", x.count(5), 0);
        due("the next one's number", x.loss(0, 1), 0);
        CoverRings latest = limits(10);
        latest.loss(0, 3);
        latest.loss(0, 4);
        latest.revoke();
        due("the latest one, not the first", latest.settled(0, 1), 3);
    }

    private static void revokeNone() {
        unchanging(CoverRings::new, "a new object", NONE, CoverRings::revoke);
        unchanging(() -> limits(10, 20), "policies alone", NONE, CoverRings::revoke);
        CoverRings x = lossOn(5, 10);
        x.revoke();
        due("behind the only one", x.revoke(), NONE);
        due("and again", x.revoke(), NONE);
        due("the next one's number", x.loss(0, 1), 0);
    }

    private static void rule() {
        CoverRings x = new CoverRings();
        for (int i = 0; i < 6; i++) {
            due("rule()", x.rule(), 1 - i % 2);
            due("count(2)", x.count(2), 1 - i % 2);
        }
    }

    private static void countWhatThereIs() {
        CoverRings none = new CoverRings();
        CoverRings all = full();
        int[] most = {8, 10, 0};
        for (int what = 0; what <= 2; what++) {
            due("none: count(" + what + ")", none.count(what), 0);
            due("all: count(" + what + ")", all.count(what), most[what]);
        }
        all.rule();
        due("count(2)", all.count(2), 1);
    }

    private static void countTotals() {
        due("none", limits(10).count(3), 0);
        CoverRings x = lossOn(5, 10);
        x.loss(0, 11);
        x.loss(1, 7);
        due("5, 10 and 0", x.count(3), 15);
        CoverRings most = eight(MILLION);
        for (int l = 0; l < 10; l++) {
            most.loss(0, MILLION);
        }
        due("ten of the greatest", most.count(3), 10 * MILLION);
    }

    private static void countAmounts() {
        due("none", limits(10).count(4), 0);
        CoverRings x = new CoverRings();
        for (int l = 0; l < 10; l++) {
            x.loss(l % 8, MILLION);
        }
        due("ten of the greatest, without policies", x.count(4), 10 * MILLION);
        x.revoke();
        due("one less", x.count(4), 9 * MILLION);
        due("one of the least", lossOn(1, 10).count(4), 1);
    }

    private static void countUsedUp() {
        CoverRings x = new CoverRings();
        int[] aggregates = {9, 10, 11, 1, 100, 10, 10, 10};
        for (int aggregate : aggregates) {
            x.policy(10, aggregate, 0, 0, 1);
        }
        due("without losses none", x.count(5), 0);
        x.loss(0, 71 + 9);
        // all pay what they can: 9, 10, 10, 1, 10, 10, 10, 10
        due("just used up, and one left in 2", x.count(5), 0b11101011);
        x.loss(0, MILLION);
        due("2 had one, 4 has the rest", x.count(5), 0b11101111);
        x.revoke();
        due("behind the losses that are there", x.count(5), 0b11101011);
        for (int l = 1; l < 10; l++) {
            x.loss(0, MILLION);
        }
        due("all 8", x.count(5), 255);
    }

    private static void countAnotherWhat() {
        for (int what : new int[] {-1, 6, 7, LEAST_INT, GREATEST_INT}) {
            unchanging(Checks::some, "count(" + what + ")", NONE, x -> x.count(what));
            due("of a new object", new CoverRings().count(what), NONE);
        }
    }

    private static void ofWhatWasTold() {
        CoverRings x = new CoverRings();
        x.policy(1, 1, 0, 0, 1);
        x.policy(MILLION, MOST, 99_999, MOST, 255);
        x.clause(1, ESCAPE, 255);
        int[] least = {1, 1, 0, 0, 1, 0, 0};
        int[] most = {MILLION, MOST, 99_999, MOST, 255, 3, 255};
        for (int what = 0; what <= 6; what++) {
            due("the least, of(0, " + what + ")", x.of(0, what), least[what]);
            due("the greatest, of(1, " + what + ")", x.of(1, what), most[what]);
        }
    }

    private static void ofLeft() {
        CoverRings x = new CoverRings();
        x.policy(10, 25, 0, 0, 1);
        int[] left = {25, 15, 5, 0, 0};
        for (int l = 0; l < 5; l++) {
            due("LEFT behind " + l, x.of(0, 7), left[l]);
            due("SHARES of " + l, x.of(0, 8), 25 - left[l]);
            x.loss(0, 10);
        }
        CoverRings most = limits(MILLION);
        for (int l = 0; l < 10; l++) {
            most.loss(0, MILLION);
        }
        due("the greatest, used up", most.of(0, 7), 0);
        due("all SHARES of the greatest", most.of(0, 8), MOST);
        int[] asked = {7, 8, 10};
        int[] behindOne = {10, 10, NONE};
        int[] behindTwo = {0, 20, 1};
        for (int i = 0; i < asked.length; i++) {
            CoverRings y = new CoverRings();
            y.policy(10, 20, 0, 0, 1);
            y.loss(0, 10);
            due("asked for first, what " + asked[i], y.of(0, asked[i]), behindOne[i]);
            y.loss(0, 10);
            due("asked for first behind another LOSS, what " + asked[i], y.of(0, asked[i]), behindTwo[i]);
        }
    }

    private static void ofPremium() {
        CoverRings x = limits(10, 10);
        due("at first", x.of(0, 9), 0);
        x.value(false, 0, 99_999);
        due("the greatest", x.of(0, 9), 99_999);
        due("of the other", x.of(1, 9), 0);
    }

    private static void ofUsedUpBy() {
        CoverRings x = new CoverRings();
        x.policy(10, 10, 0, 0, 1);
        x.policy(10, 11, 0, 0, 1);
        x.policy(10, 100, 0, 0, 1);
        for (int p = 0; p < 3; p++) {
            due("without losses", x.of(p, 10), NONE);
        }
        for (int l = 0; l < 10; l++) {
            x.loss(0, 1000);
        }
        due("the first", x.of(0, 10), 0);
        due("one was left for the second", x.of(1, 10), 1);
        due("the last", x.of(2, 10), 9);
        x.revoke();
        due("ten are left without the last", x.of(2, 10), NONE);
        due("the first, still", x.of(0, 10), 0);
    }

    private static void ofSublimit() {
        CoverRings x = eight(10);
        for (int item = 0; item < 8; item++) {
            due("none for " + item, x.of(7, 20 + item), NONE);
            x.sub(7, item, item == 0 ? 0 : MILLION - item);
        }
        for (int item = 0; item < 8; item++) {
            due("of 7 for " + item, x.of(7, 20 + item), item == 0 ? 0 : MILLION - item);
            due("of 6 for " + item, x.of(6, 20 + item), NONE);
        }
    }

    private static void ofNone() {
        for (int p : NO_POLICY_OF_THREE) {
            for (int what : new int[] {0, 7, 10, 20, 27, -1}) {
                unchanging(Checks::some, "of(" + p + ", " + what + ")", THROWN, x -> x.of(p, what));
            }
        }
        dueThrow("of(8, 0) of all 8", full(), x -> x.of(8, 0));
        due("of(7, 0) of all 8", full().of(7, 0), 170);
    }

    private static void ofAnotherWhat() {
        for (int what : new int[] {-1, 11, 12, 19, 28, LEAST_INT, GREATEST_INT}) {
            unchanging(Checks::some, "of(0, " + what + ")", THROWN, x -> x.of(0, what));
        }
    }
}
