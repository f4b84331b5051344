import java.math.BigInteger;

/** Promises 31 to 36: odds, hope, and the rows with their reader. */
public final class OddsAndRowsTest {
    private static final int BAD = -1;

    private OddsAndRowsTest() {
    }

    public static void main(String[] args) {
        promise31Odds();
        promise31AllOdds();
        promise32Hope();
        promise33Prove();
        promise34Row();
        promise35AlterRow();
        promise36Judge();
        Due.end();
    }

    private static void fraction(String call, WarmGossip x, int n, int k, long above, long below) {
        Due.is(call + ", above", x.odds(n, k, 0), above);
        Due.is(call + ", below", x.odds(n, k, 1), below);
    }

    private static void promise31Odds() {
        WarmGossip x = new WarmGossip();
        fraction("two, one meets", x, 2, 1, 8, 25);
        fraction("none of none", x, 0, 0, 1, 1);
        x.set(3, 50);
        fraction("four of eight by half", x, 8, 4, 35, 128);
        x.set(3, 99);
        fraction("none of eight by 99", x, 8, 0, 1, 10_000_000_000_000_000L);
        x.set(3, 0);
        fraction("never", x, 2, 2, 0, 1);
        fraction("ever none", x, 8, 0, 1, 1);
        Due.is("n 9", x.odds(9, 0, 0), BAD);
        Due.is("n -1", x.odds(-1, 0, 0), BAD);
        Due.is("k above n", x.odds(2, 3, 0), BAD);
        Due.is("k -1", x.odds(2, -1, 0), BAD);
        Due.is("part 2", x.odds(2, 1, 2), BAD);
        Due.is("part -1", x.odds(2, 1, -1), BAD);
    }

    private static void promise31AllOdds() {
        WarmGossip x = new WarmGossip();
        for (int meeting = 0; meeting <= 99; meeting++) {
            x = new WarmGossip();
            x.set(3, meeting);
            for (int n = 0; n <= 8; n++) {
                long ways = 1;
                for (int k = 0; k <= n; k++) {
                    BigInteger above = BigInteger.valueOf(ways).multiply(BigInteger.valueOf(meeting).pow(k))
                        .multiply(BigInteger.valueOf(100 - meeting).pow(n - k));
                    BigInteger below = BigInteger.valueOf(100).pow(n);
                    BigInteger divisor = above.gcd(below);
                    fraction("odds by " + meeting + ", " + n + ", " + k, x, n, k,
                        above.divide(divisor).longValueExact(), below.divide(divisor).longValueExact());
                    ways = ways * (n - k) / (k + 1);
                }
            }
        }
    }

    private static void promise32Hope() {
        WarmGossip x = new WarmGossip();
        Due.is("99 by 20, above", x.hope(99, 0), 99);
        Due.is("99 by 20, below", x.hope(99, 1), 5);
        Due.is("none, above", x.hope(0, 0), 0);
        Due.is("none, below", x.hope(0, 1), 1);
        x.set(3, 99);
        Due.is("99 by 99, above", x.hope(99, 0), 9801);
        Due.is("99 by 99, below", x.hope(99, 1), 100);
        x.set(3, 0);
        Due.is("by 0, above", x.hope(9, 0), 0);
        Due.is("by 0, below", x.hope(9, 1), 1);
        Due.is("n 100", x.hope(100, 0), BAD);
        Due.is("n -1", x.hope(-1, 0), BAD);
        Due.is("part 2", x.hope(1, 2), BAD);
        Due.is("part -1", x.hope(1, -1), BAD);
    }

    private static WarmGossip proved(int n) {
        WarmGossip x = new WarmGossip();
        x.tale(0, 10, 6);
        x.tale(3, 10, 0);
        Due.is("prove", x.prove(0, n), n);
        return x;
    }

    private static void promise33Prove() {
        WarmGossip x = proved(3);
        Due.is("rows", x.many(4), 3);
        Due.is("n 0", x.prove(0, 0), BAD);
        Due.is("n 11", x.prove(0, 11), BAD);
        Due.is("tale 2", x.prove(2, 1), BAD);
        Due.is("the rows stay", x.many(4), 3);
        Due.is("other rows", x.prove(1, 10), 10);
        Due.is("rows then", x.many(4), 10);
        Due.is("fewer rows", x.prove(0, 1), 1);
        Due.is("the second is gone", x.row(1, 0), -9);
        Due.is("nothing goes on", x.state(0), 0);
    }

    private static void promise34Row() {
        WarmGossip x = proved(4);
        int[][] due = {{7, 7, 192}, {0, 4, 193}, {1, 1, 195}, {2, 0, 199}};
        for (int i = 0; i < 4; i++) {
            for (int what = 0; what < 3; what++) {
                Due.is("row " + i + ", " + what, x.row(i, what), due[i][what]);
            }
        }
        Due.is("row 4", x.row(4, 0), -9);
        Due.is("row -1", x.row(-1, 0), -9);
        Due.is("what 3", x.row(0, 3), -9);
        Due.is("what -1", x.row(0, -1), -9);
        x.minutes(1);
        Due.is("rows stay as they were proved", x.row(0, 0), 7);
    }

    private static void promise35AlterRow() {
        WarmGossip x = proved(2);
        Due.is("alter", x.alterRow(1, 2, Integer.MIN_VALUE), 193);
        Due.is("altered", x.row(1, 2), Integer.MIN_VALUE);
        Due.is("alter back", x.alterRow(1, 2, 193), Integer.MIN_VALUE);
        Due.is("row 2", x.alterRow(2, 0, 0), -9);
        Due.is("row -1", x.alterRow(-1, 0, 0), -9);
        Due.is("what 3", x.alterRow(0, 3, 0), -9);
        Due.is("what -1", x.alterRow(0, -1, 0), -9);
    }

    private static void promise36Judge() {
        WarmGossip x = new WarmGossip();
        Due.is("no such tale", x.judge(0), BAD);
        x.tale(0, 10, 6);
        Due.is("no rows", x.judge(0), 0);
        x = proved(4);
        Due.is("all right", x.judge(0), 0);
        Due.is("of another", x.judge(1), 1);
        Due.is("tale 2", x.judge(2), BAD);
        Due.is("tale -1", x.judge(-1), BAD);
        for (int i = 0; i < 4; i++) {
            for (int what = 0; what < 3; what++) {
                int was = x.alterRow(i, what, 77);
                Due.is("wrong in row " + i, x.judge(0), i + 1);
                x.alterRow(i, what, was);
            }
        }
        x.alterRow(3, 0, 7);
        x.alterRow(1, 1, 7);
        Due.is("the first that is wrong", x.judge(0), 2);
        x = proved(4);
        x.minutes(1);
        Due.is("from how it is now", x.judge(0), 1);
    }
}
