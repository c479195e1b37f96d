/** For each promise of the document: answers reckoned by hand, its edges, and wrong inputs. */
final class PromiseTest extends Checks {
    public static void main(String[] args) {
        Runnable[] promises = {
            PromiseTest::aNewObject, PromiseTest::policy, PromiseTest::clause, PromiseTest::limit,
            PromiseTest::sub, PromiseTest::value, PromiseTest::loss, PromiseTest::revoke,
            PromiseTest::rule, PromiseTest::count, PromiseTest::of, PromiseTest::settled,
            PromiseTest::share, PromiseTest::part, PromiseTest::strain, PromiseTest::step,
            PromiseTest::level, PromiseTest::ring, PromiseTest::way, PromiseTest::claimed,
            PromiseTest::recovery, PromiseTest::broke, PromiseTest::without, PromiseTest::other,
            PromiseTest::set, PromiseTest::shapley, PromiseTest::returned, PromiseTest::ringless,
            PromiseTest::fewest, PromiseTest::moved, PromiseTest::file, PromiseTest::filed,
        };
        for (int i = 0; i < promises.length; i++) {
            sentence("promise " + (i + 1), promises[i]);
        }
        end();
    }

    /** A ring of 0, 1, 2; 3 stands apart; 4 escapes, 5 would escape to 4 alone; 6 is behind 5. */
    private static CoverRings ringed() {
        CoverRings x = limits(100, 100, 100, 100, 500, 50, 90);
        x.clause(0, EXCESS, 0b10);
        x.clause(1, EXCESS, 0b100);
        x.clause(2, EXCESS, 0b1);
        x.clause(4, ESCAPE, 0b1);
        x.clause(5, ESCAPE, 0b10000);
        x.clause(6, EXCESS, 0b100001);
        x.loss(0, 480);
        return x;
    }

    private static void aNewObject() {
        CoverRings x = new CoverRings();
        for (int what = 0; what <= 5; what++) {
            due("count(" + what + ")", x.count(what), 0);
        }
        due("NONE", CoverRings.NONE, -1);
        dueThrow("of(0, 0)", x, y -> y.of(0, 0));
        due("settled(0, 0)", x.settled(0, 0), NONE);
        due("revoke()", x.revoke(), NONE);
        for (int item = 0; item < 8; item++) {
            due("returned(NONE, item)", x.returned(NONE, item), NONE);
            due("filed(0, place)", x.filed(item % 4, item, true), -2);
        }
    }

    private static void policy() {
        CoverRings x = new CoverRings();
        int[][] bad = {
            {0, 1, 0, 0, 1}, {1_000_001, 1, 0, 0, 1}, {-1, 1, 0, 0, 1}, {1, 0, 0, 0, 1}, {1, 9_000_001, 0, 0, 1},
            {1, 1, -1, 0, 1}, {1, 1, 100_000, 0, 1}, {1, 1, 0, -1, 1}, {1, 1, 0, 9_000_001, 1},
            {1, 1, 0, 0, 0}, {1, 1, 0, 0, 256}, {1, 1, 0, 0, -1},
            {Integer.MIN_VALUE, 1, 0, 0, 1}, {1, 1, 0, 0, Integer.MAX_VALUE},
        };
        for (int[] b : bad) {
            due("policy(" + java.util.Arrays.toString(b) + ")", x.policy(b[0], b[1], b[2], b[3], b[4]), NONE);
        }
        due("count(0) behind wrong ones", x.count(0), 0);
        due("the least", x.policy(1, 1, 0, 0, 1), 0);
        due("the greatest", x.policy(1_000_000, 9_000_000, 99_999, 9_000_000, 255), 1);
        int[] greatest = {1_000_000, 9_000_000, 99_999, 9_000_000, 255, PLAIN, 0};
        for (int what = 0; what < greatest.length; what++) {
            due("of(1, " + what + ")", x.of(1, what), greatest[what]);
        }
        for (int p = 2; p < 8; p++) {
            due("policy", x.policy(5, 5, 5, 5, 5), p);
        }
        due("a ninth", x.policy(5, 5, 5, 5, 5), NONE);
        due("count(0)", x.count(0), 8);
    }

    private static void clause() {
        CoverRings x = limits(10, 10);
        due("as it is", x.clause(0, PLAIN, 0), false);
        due("another to", x.clause(0, PLAIN, 2), true);
        due("another kind", x.clause(0, EXCESS, 2), true);
        due("it has", x.clause(0, EXCESS, 2), false);
        due("to those not there yet", x.clause(0, EXCESS, 255), true);
        due("of(0, 5)", x.of(0, 5), EXCESS);
        due("of(0, 6)", x.of(0, 6), 255);
        due("of(1, 5)", x.of(1, 5), PLAIN);
        due("no policy 2", x.clause(2, EXCESS, 1), false);
        due("no policy -1", x.clause(-1, EXCESS, 1), false);
        due("no kind 4", x.clause(0, 4, 1), false);
        due("no kind -1", x.clause(0, -1, 1), false);
        due("no set 256", x.clause(0, EXCESS, 256), false);
        due("no set -1", x.clause(0, EXCESS, -1), false);
        due("of(0, 6) still", x.of(0, 6), 255);
        x.loss(0, 10);
        due("itself doesn't count", x.share(0, 0, 5), 2);
        x.policy(10, 10, 0, 0, 1);
        due("one that came later counts", x.share(0, 0, 5), 6);
        due("itself alone", x.clause(0, ESCAPE, 1), true);
        due("yields to none", x.settled(0, 7), 0);
        due("RATEABLE", x.clause(0, RATEABLE, 6), true);
        due("RATEABLE yields to none", x.settled(0, 7), 0);
        due("ESCAPE", x.clause(0, ESCAPE, 6), true);
        due("ESCAPE yields", x.settled(0, 7), 2);
    }

    private static void limit() {
        CoverRings x = limits(1000, 1000);
        x.loss(0, 900);
        due("limit", x.limit(0, 500), true);
        due("as it is", x.limit(0, 500), false);
        due("of(0, 0)", x.of(0, 0), 500);
        due("LONE", x.share(0, 0, 0), 500);
        due("LONE of the other", x.share(0, 1, 0), 900);
        due("0", x.limit(0, 0), false);
        due("1", x.limit(0, 1), true);
        due("1000000", x.limit(0, 1_000_000), true);
        due("1000001", x.limit(0, 1_000_001), false);
        due("no policy 2", x.limit(2, 5), false);
        due("no policy -1", x.limit(-1, 5), false);
        due("of(0, 0) still", x.of(0, 0), 1_000_000);
    }

    private static void sub() {
        CoverRings x = limits(1000);
        x.loss(0, 900);
        due("none there", x.sub(0, 0, NONE), false);
        due("0", x.sub(0, 0, 0), true);
        due("of(0, 20)", x.of(0, 20), 0);
        due("not in", x.settled(0, 3), 0);
        due("as it is", x.sub(0, 0, 0), false);
        due("300", x.sub(0, 0, 300), true);
        due("LONE", x.share(0, 0, 0), 300);
        due("1000000", x.sub(0, 0, 1_000_000), true);
        due("LONE by LIMIT", x.share(0, 0, 0), 900);
        due("1000001", x.sub(0, 0, 1_000_001), false);
        due("-2", x.sub(0, 0, -2), false);
        due("none any more", x.sub(0, 0, NONE), true);
        due("of(0, 20)", x.of(0, 20), NONE);
        due("item 7", x.sub(0, 7, 5), true);
        due("of(0, 27)", x.of(0, 27), 5);
        due("LONE for item 0", x.share(0, 0, 0), 900);
        due("no item 8", x.sub(0, 8, 5), false);
        due("no item -1", x.sub(0, -1, 5), false);
        due("no policy 1", x.sub(1, 0, 5), false);
        due("no policy -1", x.sub(-1, 0, 5), false);
    }

    private static void value() {
        CoverRings x = limits(1000);
        due("premium as it is", x.value(false, 0, 0), false);
        due("premium", x.value(false, 0, 99_999), true);
        due("of(0, 9)", x.of(0, 9), 99_999);
        due("premium again", x.value(false, 0, 99_999), false);
        due("premium 100000", x.value(false, 0, 100_000), false);
        due("premium -1", x.value(false, 0, -1), false);
        due("no policy 1", x.value(false, 1, 5), false);
        due("no policy -1", x.value(false, -1, 5), false);
        due("worth as it is", x.value(true, 7, 0), false);
        due("worth of an item nobody has", x.value(true, 7, 9_000_000), true);
        due("worth 9000001", x.value(true, 7, 9_000_001), false);
        due("worth -1", x.value(true, 7, -1), false);
        due("worth again", x.value(true, 7, 9_000_000), false);
        due("no item 8", x.value(true, 8, 5), false);
        due("no item -1", x.value(true, -1, 5), false);
        due("OVER", x.returned(NONE, 7), 0);
        due("worth not told any more", x.value(true, 7, 0), true);
        due("no OVER", x.returned(NONE, 7), NONE);
        due("premium stays", x.of(0, 9), 99_999);
        due("premium 0 again", x.value(false, 0, 0), true);
        due("of(0, 9)", x.of(0, 9), 0);
    }

    private static void loss() {
        CoverRings x = new CoverRings();
        due("no item 8", x.loss(8, 5), NONE);
        due("no item -1", x.loss(-1, 5), NONE);
        due("amount 0", x.loss(0, 0), NONE);
        due("amount 1000001", x.loss(0, 1_000_001), NONE);
        due("amount least int", x.loss(0, Integer.MIN_VALUE), NONE);
        due("the least", x.loss(0, 1), 0);
        due("the greatest", x.loss(7, 1_000_000), 1);
        due("settled(1, 0)", x.settled(1, 0), 7);
        due("settled(1, 1)", x.settled(1, 1), 1_000_000);
        for (int l = 2; l < 10; l++) {
            due("loss", x.loss(3, 5), l);
        }
        due("an eleventh", x.loss(3, 5), NONE);
        due("count(1)", x.count(1), 10);
    }

    private static void revoke() {
        CoverRings x = limits(1000);
        due("none", x.revoke(), NONE);
        x.loss(0, 400);
        x.loss(0, 500);
        due("left", x.of(0, 7), 8_999_100);
        due("revoke", x.revoke(), 1);
        due("left", x.of(0, 7), 8_999_600);
        due("settled(1, 1)", x.settled(1, 1), NONE);
        due("revoke", x.revoke(), 0);
        due("none", x.revoke(), NONE);
        due("loss", x.loss(0, 7), 0);
        due("settled(0, 1)", x.settled(0, 1), 7);
    }

    private static void rule() {
        CoverRings x = limits(1000, 2000);
        x.loss(0, 2400);
        due("count(2)", x.count(2), 0);
        dueShares("rule 0", x, 0, 800, 1600);
        due("rule", x.rule(), 1);
        due("count(2)", x.count(2), 1);
        dueShares("rule 1", x, 0, 1000, 1400);
        due("rule", x.rule(), 0);
        dueShares("rule 0", x, 0, 800, 1600);

        CoverRings like = limits(1, 1, 1);
        like.loss(0, 2);
        dueShares("like losses by rounding", like, 0, 1, 1, 0);
        CoverRings most = limits(3, 1, 1);
        most.loss(0, 4);
        dueShares("the most lost by rounding", most, 0, 2, 1, 1);
        CoverRings steps = limits(10, 10, 10);
        steps.loss(0, 20);
        steps.rule();
        dueShares("left behind the steps", steps, 0, 7, 7, 6);
        CoverRings full = limits(2, 10, 9);
        full.loss(0, 15);
        full.rule();
        dueShares("one is full", full, 0, 2, 7, 6);
        CoverRings all = limits(2, 10, 9);
        all.loss(0, 500);
        dueShares("not enough, rule 0", all, 0, 2, 10, 9);
        all.rule();
        dueShares("not enough, rule 1", all, 0, 2, 10, 9);
        CoverRings great = limits(1_000_000, 1_000_000, 1_000_000, 1_000_000, 1_000_000, 1_000_000, 1_000_000, 999_999);
        great.loss(0, 1_000_000);
        dueShares("the greatest", great, 0, 125_000, 125_000, 125_000, 125_000, 125_000, 125_000, 125_000, 125_000);
    }

    private static void count() {
        CoverRings x = new CoverRings();
        x.policy(300, 500, 0, 0, 1);
        x.policy(300, 900, 0, 0, 3);
        x.loss(0, 600);
        x.loss(1, 1000);
        x.loss(0, 600);
        // 300 and 300; then 1 alone pays 300; then 0 has 200 left and 1 has 300 left
        due("count(0)", x.count(0), 2);
        due("count(1)", x.count(1), 3);
        due("count(2)", x.count(2), 0);
        due("count(3)", x.count(3), 600 + 300 + 500);
        due("count(4)", x.count(4), 2200);
        due("count(5)", x.count(5), 3);
        due("count(6)", x.count(6), NONE);
        due("count(-1)", x.count(-1), NONE);
        x.revoke();
        due("count(5) with some left", x.count(5), 0);
        due("count(3)", x.count(3), 900);
        due("count(4) without the revoked one", x.count(4), 1600);
    }

    private static void of() {
        CoverRings x = new CoverRings();
        x.policy(300, 500, 7, 250, 5);
        x.clause(0, RATEABLE, 2);
        x.value(false, 0, 44);
        x.sub(0, 2, 123);
        int[] told = {300, 500, 7, 250, 5, RATEABLE, 2, 500, 0, 44, NONE};
        for (int what = 0; what < told.length; what++) {
            due("of(0, " + what + ")", x.of(0, what), told[what]);
        }
        for (int item = 0; item < 8; item++) {
            due("of(0, 20 + " + item + ")", x.of(0, 20 + item), item == 2 ? 123 : NONE);
        }
        x.loss(0, 307);
        due("left", x.of(0, 7), 200);
        due("its shares", x.of(0, 8), 300);
        due("used up by", x.of(0, 10), NONE);
        x.loss(1, 307);
        x.loss(0, 400);
        x.loss(0, 400);
        due("left", x.of(0, 7), 0);
        due("its shares", x.of(0, 8), 500);
        due("used up by", x.of(0, 10), 2);
        for (int what : new int[] {-1, 11, 19, 28, Integer.MIN_VALUE, Integer.MAX_VALUE}) {
            dueThrow("of(0, " + what + ")", x, y -> y.of(0, what));
        }
        dueThrow("of(1, 0)", x, y -> y.of(1, 0));
        dueThrow("of(-1, 20)", x, y -> y.of(-1, 20));
        dueThrow("of(8, 20)", x, y -> y.of(8, 20));
    }

    private static void settled() {
        CoverRings x = ringed();
        // level 0: 400 of 480 by 0 to 3; 4 is out; 5 and 6 are at levels 2 and 3
        due("ITEM", x.settled(0, 0), 0);
        due("AMOUNT", x.settled(0, 1), 480);
        due("TOTAL", x.settled(0, 2), 480);
        due("IN", x.settled(0, 3), 127);
        due("OUT", x.settled(0, 4), 16);
        due("RINGS", x.settled(0, 5), 1);
        due("LEVELS", x.settled(0, 6), 4);
        due("YIELDS", x.settled(0, 7), 7);
        due("TRULY", x.settled(0, 8), 4);
        due("settled(0, 9)", x.settled(0, 9), NONE);
        due("settled(0, -1)", x.settled(0, -1), NONE);
        due("settled(1, 0)", x.settled(1, 0), NONE);
        due("settled(-1, 0)", x.settled(-1, 0), NONE);
        x.loss(1, 480);
        for (int what = 2; what <= 8; what++) {
            due("none in, settled(1, " + what + ")", x.settled(1, what), 0);
        }
    }

    private static void share() {
        CoverRings x = ringed();
        int[][] want = {
            {100, 0, 100, 100, 7, 2, 0, 9_000_000, 480},
            {100, 0, 100, 100, 7, 4, 0, 9_000_000, 480},
            {100, 0, 100, 100, 7, 1, 0, 9_000_000, 480},
            {100, 0, 100, 100, 0, 0, 0, 9_000_000, 480},
            {480, 1, 0, 0, 0, 1, 1, 9_000_000, 80},
            {50, 2, 50, 50, 0, 16, 16, 9_000_000, 80},
            {90, 3, 30, 30, 0, 33, 33, 9_000_000, 30},
        };
        for (int p = 0; p < want.length; p++) {
            for (int what = 0; what <= 8; what++) {
                due("share(0, " + p + ", " + what + ")", x.share(0, p, what), want[p][what]);
            }
        }
        x.loss(1, 480);
        int[] notIn = {0, NONE, 0, 0, 0, 0, 0, 8_999_900, NONE};
        for (int what = 0; what <= 8; what++) {
            due("share(1, 0, " + what + ")", x.share(1, 0, what), notIn[what]);
        }
        dueThrow("share(0, 0, 9)", x, y -> y.share(0, 0, 9));
        dueThrow("share(0, 0, -1)", x, y -> y.share(0, 0, -1));
        dueThrow("share(0, 7, 0)", x, y -> y.share(0, 7, 0));
        dueThrow("share(0, -1, 0)", x, y -> y.share(0, -1, 0));
        dueThrow("share(2, 0, 0)", x, y -> y.share(2, 0, 0));
        dueThrow("share(-1, 0, 0)", x, y -> y.share(-1, 0, 0));
        shareOwed();
        shareOfRingsBehind();
    }

    private static void shareOwed() {
        CoverRings x = new CoverRings();
        x.policy(700, 5000, 20, 1000, 1);
        x.loss(0, 999);
        due("VALUE above LIMIT: 999 * 700 / 1000 - 20", x.share(0, 0, 0), 679);
        x.limit(0, 1000);
        due("VALUE is LIMIT: 999 - 20", x.share(0, 0, 0), 979);
        x.limit(0, 999);
        due("999 * 999 / 1000 - 20", x.share(0, 0, 0), 978);
        x.loss(0, 20);
        due("DEDUCTIBLE is all", x.share(1, 0, 0), 0);
        due("not in", x.settled(1, 3), 0);
        CoverRings great = new CoverRings();
        great.policy(999_999, 9_000_000, 99_999, 1_000_000, 128);
        great.loss(7, 1_000_000);
        due("beyond an int on the way", great.share(0, 0, 0), 900_000);
    }

    /** Levels inside a ring are each one's own. */
    private static void shareOfRingsBehind() {
        CoverRings x = limits(10, 20, 30);
        x.clause(0, EXCESS, 0b110);
        x.clause(1, EXCESS, 0b1);
        x.loss(0, 45);
        due("ring", x.share(0, 0, 4), 3);
        due("0 yields truly to 2 alone", x.share(0, 0, 6), 4);
        due("LEVEL of 0", x.share(0, 0, 1), 1);
        due("LEVEL of 1", x.share(0, 1, 1), 0);
        dueShares("18 and 27 of 45", x, 0, 0, 18, 27);
        due("CAP of 0: no BURDEN", x.share(0, 0, 2), 0);
        due("BURDEN of 0", x.share(0, 0, 8), 0);
    }

    private static void part() {
        CoverRings x = limits(100, 200);
        x.loss(0, 300);
        x.loss(1, 300);
        due("part(0, 0)", x.part(0, 0), Float.floatToIntBits(100f / 300f));
        due("part(0, 1)", x.part(0, 1), Float.floatToIntBits(200f / 300f));
        due("TOTAL is 0", x.part(1, 0), NONE);
        due("no policy 2", x.part(0, 2), NONE);
        due("no policy -1", x.part(0, -1), NONE);
        due("no loss 2", x.part(2, 0), NONE);
        due("no loss -1", x.part(-1, 0), NONE);
        x.sub(1, 0, 0);
        due("all of it", x.part(0, 0), 0x3f800000);
        due("nothing of it", x.part(0, 1), 0);
        for (int small = 1; small < 400; small++) {
            CoverRings y = limits(small, 1_000_000 - 3 * small);
            y.loss(0, 1_000_000);
            float want = (float) small / (float) (1_000_000 - 2 * small);
            due("part of " + small, y.part(0, 0), Float.floatToIntBits(want));
        }
    }

    private static void strain() {
        CoverRings x = limits(300, 200);
        x.loss(0, 100);
        x.loss(1, 100);
        due("strain(0, 0)", x.strain(0, 0), Double.doubleToLongBits(50.0 / 300.0));
        due("strain(0, 1)", x.strain(0, 1), Double.doubleToLongBits(50.0 / 200.0));
        due("no share", x.strain(1, 1), 0);
        due("no policy 2", x.strain(0, 2), NONE);
        due("no policy -1", x.strain(0, -1), NONE);
        due("no loss 2", x.strain(2, 0), NONE);
        due("no loss -1", x.strain(-1, 0), NONE);
        for (int limit : new int[] {1, 7, 999_999}) {
            CoverRings full = limits(limit);
            full.loss(0, 1_000_000);
            due("all of it", full.strain(0, 0), 0x3ff0000000000000L);
        }
        for (int most = 999_700; most <= 1_000_000; most++) {
            CoverRings y = limits(most);
            y.loss(0, 1 + most % 7);
            due("strain of " + most, y.strain(0, 0), Double.doubleToLongBits((1 + most % 7) / (double) most));
        }
    }

    private static void step() {
        CoverRings x = limits(10, 10, 9, 500);
        x.clause(3, EXCESS, 1);
        x.loss(0, 20);
        due("H", x.step(0, 0), 6);
        due("nothing is left for it", x.step(0, 1), 0);
        due("no level 2", x.step(0, 2), NONE);
        due("no level -1", x.step(0, -1), NONE);
        due("no loss 1", x.step(1, 0), NONE);
        due("no loss -1", x.step(-1, 0), NONE);
        x.loss(0, 29);
        due("all caps: the greatest", x.step(1, 0), 10);
        x.loss(0, 28);
        due("one below all", x.step(2, 0), 9);
        x.loss(0, 99);
        due("behind the first", x.step(3, 1), 70);
        CoverRings burdened = limits(100, 200, 300);
        burdened.clause(2, ESCAPE, 1);
        burdened.loss(0, 600);
        due("all of a level are out", burdened.step(0, 1), 0);
        burdened.loss(1, 600);
        due("none is in", burdened.step(1, 0), NONE);
    }

    private static void level() {
        CoverRings x = ringed();
        int[] want = {0b1111, 0b10000, 0b100000, 0b1000000};
        for (int level = 0; level < want.length; level++) {
            due("level(0, " + level + ")", x.level(0, level), want[level]);
        }
        due("level(0, 4)", x.level(0, 4), NONE);
        due("level(0, -1)", x.level(0, -1), NONE);
        due("level(1, 0)", x.level(1, 0), NONE);
        due("level(-1, 0)", x.level(-1, 0), NONE);
        x.loss(1, 5);
        due("none is in", x.level(1, 0), NONE);
        CoverRings chain = limits(1, 1, 1, 1, 1, 1, 1, 1);
        for (int p = 0; p < 7; p++) {
            chain.clause(p, EXCESS, 0b11 << p);
        }
        chain.loss(0, 5);
        for (int level = 0; level < 8; level++) {
            due("chain, level " + level, chain.level(0, level), 1 << 7 - level);
        }
        due("chain, level 8", chain.level(0, 8), NONE);
        due("chain, BURDEN of level 7", chain.share(0, 0, 8), 0);
        due("chain, BURDEN of level 4", chain.share(0, 3, 8), 1);
        dueShares("chain", chain, 0, 0, 0, 0, 1, 1, 1, 1, 1);
    }

    private static void ring() {
        CoverRings x = ringed();
        due("ring(0, 0)", x.ring(0, 0), 7);
        due("ring(0, 1)", x.ring(0, 1), NONE);
        due("ring(0, -1)", x.ring(0, -1), NONE);
        due("ring(1, 0)", x.ring(1, 0), NONE);
        due("ring(-1, 0)", x.ring(-1, 0), NONE);
        CoverRings two = limits(5, 5, 5, 5, 5, 5, 5, 5);
        two.clause(7, EXCESS, 0b1);
        two.clause(0, ESCAPE, 0b10000010);
        two.clause(1, EXCESS, 0b100);
        two.clause(2, EXCESS, 0b1000);
        two.clause(3, ESCAPE, 0b10010);
        two.clause(4, EXCESS, 0b1000);
        two.loss(0, 5);
        due("the first", two.ring(0, 0), 0b10000001);
        due("the second", two.ring(0, 1), 0b11110);
        due("a third", two.ring(0, 2), NONE);
        due("RINGS", two.settled(0, 5), 2);
        due("0 is out: it yields truly to 1", two.settled(0, 4), 1);
        two.sub(3, 0, 0);
        due("3 is not in", two.settled(0, 5), 1);
        CoverRings all = limits(5, 5, 5, 5, 5, 5, 5, 5);
        for (int p = 0; p < 8; p++) {
            all.clause(p, EXCESS, 1 << (p + 3) % 8);
        }
        all.loss(0, 5);
        due("all", all.ring(0, 0), 255);
    }

    private static void way() {
        CoverRings x = limits(5, 5, 5, 5, 5, 5);
        x.clause(0, EXCESS, 0b1110);
        x.clause(1, EXCESS, 0b100000);
        x.clause(2, EXCESS, 0b10000);
        x.clause(3, EXCESS, 0b10000);
        x.clause(5, EXCESS, 0b10000);
        x.loss(0, 5);
        due("0 to 4", x.way(0, 0, 4, NONE), 3);
        due("0 to 4, first", x.way(0, 0, 4, 0), 0);
        due("0 to 4, second: 2, not 3", x.way(0, 0, 4, 1), 2);
        due("0 to 4, third", x.way(0, 0, 4, 2), 4);
        due("0 to 4, not so many", x.way(0, 0, 4, 3), NONE);
        due("0 to 4, k -2", x.way(0, 0, 4, -2), NONE);
        due("0 to 1", x.way(0, 0, 1, NONE), 2);
        due("4 to 0", x.way(0, 4, 0, NONE), NONE);
        due("0 to 0", x.way(0, 0, 0, NONE), NONE);
        x.clause(4, EXCESS, 1);
        due("0 to 0 in a ring", x.way(0, 0, 0, NONE), NONE);
        due("0 to 0 in a ring, 0", x.way(0, 0, 0, 0), NONE);
        due("5 to 1", x.way(0, 5, 1, NONE), 4);
        due("5 to 1, third", x.way(0, 5, 1, 2), 0);
        due("5 to 1, first", x.way(0, 5, 1, 0), 5);
        due("5 to 1, last", x.way(0, 5, 1, 3), 1);
        due("no policy 6", x.way(0, 6, 1, NONE), NONE);
        due("to no policy 6", x.way(0, 1, 6, NONE), NONE);
        due("no policy -1", x.way(0, 1, -1, NONE), NONE);
        due("no loss 1", x.way(1, 5, 1, NONE), NONE);
        due("no loss -1", x.way(-1, 5, 1, NONE), NONE);
        CoverRings chain = limits(1, 1, 1, 1, 1, 1, 1, 1);
        for (int p = 0; p < 7; p++) {
            chain.clause(p, EXCESS, 2 << p);
        }
        chain.loss(0, 5);
        due("the longest", chain.way(0, 0, 7, NONE), 8);
        due("the longest, last", chain.way(0, 0, 7, 7), 7);
    }

    private static void claimed() {
        CoverRings x = claims();
        dueShares("by LONES", x, 0, 200, 300, 100, 0);
        due("nobody", x.claimed(0, 0, NONE), 0);
        due("0 alone", x.claimed(0, row(0), NONE), 400);
        due("0, 1", x.claimed(0, row(0, 1), 0), 400);
        due("0, 1", x.claimed(0, row(0, 1), 1), 200);
        due("1, 0", x.claimed(0, row(1, 0), 1), 600);
        due("1, 0", x.claimed(0, row(1, 0), 0), 0);
        due("2, 3", x.claimed(0, row(2, 3), NONE), 100);
        due("2, 0, 3, 1", x.claimed(0, row(2, 0, 3, 1), 1), 100);
        due("not in the row", x.claimed(0, row(0), 3), 0);
        due("row of one that is not there", x.claimed(0, row(4), NONE), NONE);
        due("row with one twice", x.claimed(0, row(0, 0), NONE), NONE);
        due("row with one twice later", x.claimed(0, row(0, 1, 0), 0), NONE);
        due("a digit 0 ahead", x.claimed(0, 9, NONE), NONE);
        due("a digit 0 between", x.claimed(0, 1 + 2 * 81, NONE), NONE);
        due("row -1", x.claimed(0, -1, NONE), NONE);
        due("row least long", x.claimed(0, Long.MIN_VALUE, NONE), NONE);
        due("row greatest long", x.claimed(0, Long.MAX_VALUE, NONE), NONE);
        due("no policy 4", x.claimed(0, row(0), 4), NONE);
        due("no policy -2", x.claimed(0, row(0), -2), NONE);
        due("no loss 1", x.claimed(1, row(0), 0), NONE);
        due("no loss -1", x.claimed(-1, row(0), 0), NONE);
        CoverRings all = limits(1, 2, 3, 4, 5, 6, 7, 8);
        all.loss(0, 36);
        due("all eight", all.claimed(0, row(7, 6, 5, 4, 3, 2, 1, 0), NONE), 36);
        due("a ninth", all.claimed(0, row(7, 6, 5, 4, 3, 2, 1, 0) + 43046721L, NONE), NONE);
    }

    private static void recovery() {
        CoverRings x = claims();
        duePayments("nobody", x, 0, pays(0, INSURED, 200), pays(1, INSURED, 300), pays(2, INSURED, 100));
        // balances 200, -300, -100, 0, the insured -200
        duePayments("0", x, row(0), pays(1, INSURED, 200), pays(1, 0, 100), pays(2, 0, 100));
        // balances -200, 300, -100, 0, the insured 0
        duePayments("1", x, row(1), pays(0, 1, 200), pays(2, 1, 100));
        // balances 200, -100, -100
        duePayments("0, 1", x, row(0, 1), pays(1, 0, 100), pays(2, 0, 100));
        CoverRings apart = limits(600, 600, 600, 600, 600, 600);
        apart.clause(0, RATEABLE, 0);
        apart.clause(2, RATEABLE, 0);
        apart.loss(0, 600);
        duePayments("two are owed to", apart, row(0, 2, 3, 1), pays(1, 3, 100), pays(4, 3, 100), pays(5, 3, 100));
        due("k -2", x.recovery(0, 0, -2, 0), NONE);
        due("what 3", x.recovery(0, 0, 0, 3), NONE);
        due("what -1", x.recovery(0, 0, 0, -1), NONE);
        due("a row that can't be", x.recovery(0, row(1, 1), NONE, 0), NONE);
        due("no loss 1", x.recovery(1, 0, NONE, 0), NONE);
        due("no loss -1", x.recovery(-1, 0, NONE, 0), NONE);
        CoverRings all = limits(1, 2, 3, 4, 5, 6, 7, 8);
        all.loss(0, 36);
        due("eight payments", all.recovery(0, 0, NONE, 0), 8);
        due("the eighth", all.recovery(0, 0, 7, 2), 8);
        due("none to pay", all.recovery(0, row(0, 1, 2, 3, 4, 5, 6, 7), NONE, 1), 0);
    }

    private static void broke() {
        CoverRings x = claims();
        due("none", x.broke(0, 0, 0), 200);
        due("none, lacks", x.broke(0, 0, NONE), 0);
        // 2 pays no 100: rooms 200 of 0 and 300 of 1
        due("2, 0 pays", x.broke(0, 0b100, 0), 240);
        due("2, 1 pays", x.broke(0, 0b100, 1), 360);
        due("2, 2 pays", x.broke(0, 0b100, 2), 0);
        due("2, 3 is no PLAIN one", x.broke(0, 0b100, 3), 0);
        due("2, lacks", x.broke(0, 0b100, NONE), 0);
        // 1 and 2 pay no 400: room 200 of 0
        due("1 and 2, 0 pays", x.broke(0, 0b110, 0), 400);
        due("1 and 2, lacks", x.broke(0, 0b110, NONE), 200);
        due("0 and 1, 2 pays no more", x.broke(0, 0b11, 2), 100);
        due("all, lacks", x.broke(0, 0b1111, NONE), 600);
        due("all, 3 pays", x.broke(0, 0b1111, 3), 0);
        due("no set 16", x.broke(0, 16, 0), NONE);
        due("no set -1", x.broke(0, -1, 0), NONE);
        due("no policy 4", x.broke(0, 1, 4), NONE);
        due("no policy -2", x.broke(0, 1, -2), NONE);
        due("no loss 1", x.broke(1, 1, 0), NONE);
        due("no loss -1", x.broke(-1, 1, NONE), NONE);
        x.rule();
        // rule 1: shares 200, 200, 200; rooms 200, 400
        due("rule 1, 2, 0 pays", x.broke(0, 0b100, 0), 300);
        due("rule 1, 2, 1 pays", x.broke(0, 0b100, 1), 300);
        CoverRings odd = limits(10, 10, 3);
        odd.loss(0, 3);
        // shares 1, 1, 1 (30/23, 30/23, 9/23): the rooms of 0 and 1 are 2 each (LONES are 3)
        due("odd, 0 pays", odd.broke(0, 0b100, 0), 2);
        due("odd, 1 pays", odd.broke(0, 0b100, 1), 1);
    }

    private static void without() {
        CoverRings x = limits(100, 200, 300);
        x.clause(2, ESCAPE, 0b1);
        x.loss(0, 250);
        due("TOTAL", x.settled(0, 2), 250);
        due("without 0", x.without(0, 0), 250);
        due("without 1", x.without(0, 1), 100);
        due("without 2", x.without(0, 2), 250);
        due("no policy 3", x.without(0, 3), NONE);
        due("no policy -1", x.without(0, -1), NONE);
        due("no loss 1", x.without(1, 0), NONE);
        due("no loss -1", x.without(-1, 0), NONE);
        CoverRings used = new CoverRings();
        used.policy(100, 100, 0, 0, 1);
        used.policy(100, 100, 0, 0, 1);
        used.loss(0, 100);
        used.loss(0, 100);
        due("TOTAL with both", used.settled(1, 2), 100);
        due("the first one used up the other", used.without(1, 0), 0);
        due("left as it is", used.of(1, 7), 0);
    }

    private static void other() {
        CoverRings x = limits(1000, 2000);
        x.loss(0, 2400);
        due("0 by rule 1", x.other(0, 0), 1000);
        due("1 by rule 1", x.other(0, 1), 1400);
        due("rule stays", x.count(2), 0);
        x.rule();
        due("0 by rule 0", x.other(0, 0), 800);
        due("no policy 2", x.other(0, 2), NONE);
        due("no policy -1", x.other(0, -1), NONE);
        due("no loss 1", x.other(1, 0), NONE);
        due("no loss -1", x.other(-1, 0), NONE);
        CoverRings used = new CoverRings();
        used.policy(100, 100, 0, 0, 1);
        used.policy(300, 300, 0, 0, 1);
        used.loss(0, 200);
        used.loss(0, 200);
        // rule 0: 67 of LONE 100 and 133 of LONE 200; rule 1: 100 and 100, so 0 has nothing left
        due("losses ahead by the other rule", used.other(1, 0), 0);
        due("and 1 pays all", used.other(1, 1), 200);
    }

    private static void set() {
        CoverRings x = limits(100, 200, 300);
        x.clause(2, ESCAPE, 0b1);
        x.loss(0, 1000);
        int[] want = {0, 100, 200, 300, 300, 100, 500, 300};
        for (int set = 0; set < 8; set++) {
            due("set(0, " + set + ")", x.set(0, set), want[set]);
        }
        due("set 8", x.set(0, 8), NONE);
        due("set -1", x.set(0, -1), NONE);
        due("no loss 1", x.set(1, 0), NONE);
        due("no loss -1", x.set(-1, 0), NONE);
        CoverRings empty = new CoverRings();
        empty.loss(0, 5);
        due("no policies", empty.set(0, 0), 0);
        due("no policies, 1", empty.set(0, 1), NONE);
    }

    private static void shapley() {
        CoverRings x = limits(100, 200, 300);
        x.clause(2, ESCAPE, 0b1);
        x.loss(0, 1000);
        // of 0: 2 * 100, {1}: 100, {2}: -200, 2 * (300 - 500)
        due("shapley(0, 0)", x.shapley(0, 0), 200 + 100 - 200 - 400);
        // of 1: 2 * 200, {0}: 200, {2}: 200, 2 * (300 - 100)
        due("shapley(0, 1)", x.shapley(0, 1), 400 + 200 + 200 + 400);
        // of 2: 2 * 300, {0}: 0, {1}: 300, 2 * 0
        due("shapley(0, 2)", x.shapley(0, 2), 600 + 300);
        due("no policy 3", x.shapley(0, 3), NONE);
        due("no policy -1", x.shapley(0, -1), NONE);
        due("no loss 1", x.shapley(1, 0), NONE);
        due("no loss -1", x.shapley(-1, 0), NONE);
        CoverRings alone = limits(7);
        alone.loss(0, 5);
        due("alone", alone.shapley(0, 0), 5);
        CoverRings like = limits(1_000_000, 1_000_000, 1_000_000, 1_000_000, 1_000_000, 1_000_000, 1_000_000, 1_000_000);
        for (int l = 0; l < 10; l++) {
            like.loss(0, 1_000_000);
        }
        due("eight like ones: 40320 orders, each first in 5040", like.shapley(0, 7), 5_040_000_000L);
    }

    private static void returned() {
        CoverRings x = new CoverRings();
        x.policy(600, 5000, 0, 0, 0b11);
        x.policy(400, 5000, 0, 0, 0b01);
        x.value(false, 0, 99);
        x.value(false, 1, 50);
        due("not told", x.returned(0, 0), NONE);
        due("not told, OVER", x.returned(NONE, 0), NONE);
        x.value(true, 0, 700);
        due("OVER", x.returned(NONE, 0), 300);
        due("99 * 300 / 1000", x.returned(0, 0), 29);
        due("50 * 300 / 1000", x.returned(1, 0), 15);
        x.value(true, 1, 599);
        due("OVER of 1", x.returned(NONE, 1), 1);
        due("99 / 600", x.returned(0, 1), 0);
        due("it has not item 1", x.returned(1, 1), NONE);
        x.value(true, 0, 1000);
        due("OVER", x.returned(NONE, 0), 0);
        due("nothing over", x.returned(0, 0), 0);
        x.value(true, 0, 9_000_000);
        due("0 at least", x.returned(NONE, 0), 0);
        x.value(true, 5, 10);
        due("nobody has it", x.returned(NONE, 5), 0);
        due("nobody has it, 0", x.returned(0, 5), NONE);
        due("no policy 2", x.returned(2, 0), NONE);
        due("no policy -2", x.returned(-2, 0), NONE);
        due("no item 8", x.returned(0, 8), NONE);
        due("no item -1", x.returned(NONE, -1), NONE);
        CoverRings great = limits(1_000_000, 1_000_000, 1_000_000, 1_000_000, 1_000_000, 1_000_000, 1_000_000, 1_000_000);
        great.value(false, 7, 99_999);
        great.value(true, 0, 1);
        due("the greatest OVER", great.returned(NONE, 0), 7_999_999);
        due("the greatest RETURN", great.returned(7, 0), 99_998);
        CoverRings least = limits(1);
        least.value(true, 0, 1);
        least.value(false, 0, 5);
        due("the least LIMIT", least.returned(0, 0), 0);
    }

    private static void ringless() {
        CoverRings x = ringed();
        due("one ring", x.ringless(0, false), 1);
        due("one ring, the least", x.ringless(0, true), 1);
        x.clause(3, EXCESS, 0b10);
        x.clause(1, EXCESS, 0b1100);
        due("1 is in both", x.ringless(0, true), 2);
        due("1 is in both", x.ringless(0, false), 1);
        due("no loss 1", x.ringless(1, true), NONE);
        due("no loss -1", x.ringless(-1, false), NONE);
        x.loss(1, 5);
        due("none is in", x.ringless(1, false), 0);
        due("none is in", x.ringless(1, true), 0);
        CoverRings all = limits(5, 5, 5, 5, 5, 5, 5, 5);
        for (int p = 0; p < 8; p++) {
            all.clause(p, EXCESS, 255);
        }
        all.loss(0, 5);
        due("all to all", all.ringless(0, false), 7);
        due("all to all, the least", all.ringless(0, true), 127);
        due("no ring", lossOn(5, 5, 5).ringless(0, false), 0);
        CoverRings pairs = limits(5, 5, 5, 5);
        pairs.clause(0, ESCAPE, 0b1000);
        pairs.clause(3, ESCAPE, 0b1);
        pairs.clause(1, ESCAPE, 0b100);
        pairs.clause(2, ESCAPE, 0b10);
        pairs.loss(0, 5);
        due("two pairs", pairs.ringless(0, true), 3);
    }

    private static void fewest() {
        CoverRings x = claims();
        due("1 alone", x.fewest(0, false), 1);
        due("1 alone", x.fewest(0, true), 2);
        due("no loss 1", x.fewest(1, true), NONE);
        due("no loss -1", x.fewest(-1, false), NONE);
        x.clause(1, RATEABLE, 0);
        // 0 pays 400, 1 its 300, 2 its 100
        due("0 and 1", x.fewest(0, true), 3);
        due("0 and 1", x.fewest(0, false), 2);
        x.clause(0, RATEABLE, 0);
        due("all that have a share", x.fewest(0, true), 7);
        due("one is just short", lossOn(5, 4, 4, 1).fewest(0, true), 3);
        due("of like ones the least", lossOn(5, 4, 5, 5).fewest(0, true), 2);
        x.loss(1, 5);
        due("TOTAL is 0", x.fewest(1, false), 0);
        due("TOTAL is 0", x.fewest(1, true), 0);
    }

    private static void moved() {
        CoverRings x = limits(400, 600, 300);
        x.clause(2, PLAIN, 0b1);
        x.loss(0, 650);
        // 400, 600, 300 of 1300: 200, 300, 150; as EXCESS: 260, 390, 0
        dueShares("as it is", x, 0, 200, 300, 150);
        due("EXCESS", x.moved(0, 2, EXCESS), 3);
        due("ESCAPE", x.moved(0, 2, ESCAPE), 3);
        due("RATEABLE", x.moved(0, 2, RATEABLE), 0);
        due("as it is", x.moved(0, 2, PLAIN), 0);
        due("TO none", x.moved(0, 0, EXCESS), 0);
        dueShares("nothing changed", x, 0, 200, 300, 150);
        due("kind stays", x.of(2, 5), PLAIN);
        due("no kind 4", x.moved(0, 2, 4), NONE);
        due("no kind -1", x.moved(0, 2, -1), NONE);
        due("no policy 3", x.moved(0, 3, EXCESS), NONE);
        due("no policy -1", x.moved(0, -1, EXCESS), NONE);
        due("no loss 1", x.moved(1, 2, EXCESS), NONE);
        due("no loss -1", x.moved(-1, 2, EXCESS), NONE);
        CoverRings used = new CoverRings();
        used.policy(100, 100, 0, 0, 1);
        used.policy(100, 100, 0, 0, 1);
        used.clause(1, PLAIN, 0b1);
        used.loss(0, 100);
        used.loss(0, 100);
        due("losses ahead are settled so, too", used.moved(1, 1, ESCAPE), 2);
    }

    private static void file() {
        CoverRings x = limits(10, 20, 30);
        x.clause(1, EXCESS, 0b101);
        due("PLAIN", x.file(0, 0, 0), 0);
        due("EXCESS", x.file(2, 7, 1), 0);
        due("EXCESS into PLAIN", x.file(0, 1, 1), -2);
        due("PLAIN into ESCAPE", x.file(3, 1, 0), -2);
        due("no drawer 4", x.file(4, 0, 0), NONE);
        due("no drawer -1", x.file(-1, 0, 0), NONE);
        due("no place 8", x.file(0, 8, 0), NONE);
        due("no place -1", x.file(0, -1, 0), NONE);
        due("no policy 3", x.file(0, 0, 3), NONE);
        due("no policy -1", x.file(0, 0, -1), NONE);
        due("nothing was put by -2", x.filed(0, 1, false), -2);
        due("still there", x.filed(0, 0, false), 0);
        due("instead", x.file(0, 0, 2), 0);
        due("2 is there", x.filed(0, 0, false), 2);
        due("one in two places", x.file(0, 5, 2), 0);
        due("one in two places", x.filed(0, 5, false), 2);
    }

    private static void filed() {
        CoverRings x = limits(10, 20, 30);
        for (int kind = PLAIN; kind <= ESCAPE; kind++) {
            for (int place = 0; place < 8; place++) {
                due("nothing", x.filed(kind, place, place % 2 == 0), -2);
            }
        }
        for (int kind = PLAIN; kind <= ESCAPE; kind++) {
            for (int place = 0; place < 8; place++) {
                x.clause(place % 3, kind, 10 * kind + place);
                due("file", x.file(kind, place, place % 3), 0);
            }
        }
        for (int kind = PLAIN; kind <= ESCAPE; kind++) {
            for (int place = 0; place < 8; place++) {
                due("the policy", x.filed(kind, place, false), place % 3);
                due("TO as it was", x.filed(kind, place, true), 10 * kind + place);
            }
        }
        due("no drawer 4", x.filed(4, 0, false), NONE);
        due("no drawer -1", x.filed(-1, 0, true), NONE);
        due("no place 8", x.filed(0, 8, false), NONE);
        due("no place -1", x.filed(0, -1, true), NONE);
    }
}
