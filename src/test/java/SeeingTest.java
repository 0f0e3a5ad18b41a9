/** Promises 21 and 22: what at and look tell of a party in each of its states. */
public final class SeeingTest {
    public static void main(String[] args) {
        rowsInEachState();
        figures();
        figuresOfPsks();
        bothSeeTheSame();
        Answer.end();
    }

    /** A digit for each of 0 to 5: how many of the bytes 0, 31 and 32 are to be seen. */
    private static void rows(Both d, int party, String want) {
        StringBuilder seen = new StringBuilder();
        for (int what = 0; what < 6; what++) {
            int count = 0;
            for (int k : new int[] {0, 31, 32}) {
                if (!d.at(party, what, k).text.startsWith("throws")) {
                    count++;
                }
            }
            seen.append(count);
        }
        Answer.due(d.name + ", call " + d.calls + ": rows of " + party, seen.toString(), want);
    }

    private static void rowsInEachState() {
        Both d = new Both("rows");
        rows(d, 0, "000000");
        d.setPattern("e / e ee");
        rows(d, 0, "000000");
        d.begin(0);
        rows(d, 0, "002200");
        rows(d, 1, "002200");
        d.feed(1, 1);
        d.write(0);
        rows(d, 0, "302200");
        d.deliver(1);
        rows(d, 1, "012200");
        d.write(1);
        rows(d, 1, "312022");
        d.alter(1, 40, 1);
        d.deliver(0).is(-1);
        rows(d, 0, "300000");
        rows(d, 1, "312022");
        d.clear();
        rows(d, 0, "000000");
        rows(d, 1, "000000");
        d.known(1, 1);
        d.setPattern("e es / e ee");
        d.begin(1);
        d.write(0);
        rows(d, 0, "302220");
        rows(d, 1, "002200");
        d.deliver(1);
        rows(d, 1, "002220");
    }

    private static void figures(Both d, int party, long... want) {
        for (int what = 0; what < want.length; what++) {
            d.look(party, what).is(want[what]);
        }
    }

    private static void figures() {
        Both d = new Both("figures");
        figures(d, 0, 0, 0, 0, 0, 0, 0, 0, 0);
        d.setPattern("e / e ee s es / s se");
        d.begin(0);
        figures(d, 0, 1, 0, 0, 0, 0, 0, 0, 0);
        figures(d, 1, 2, 0, 0, 0, 0, 0, 0, 0);
        d.feed(3, 0);
        d.write(0);
        figures(d, 0, 2, 35, 0, 1, 0, 0, 0, 0);
        d.deliver(1);
        figures(d, 1, 1, 0, 3, 1, 0, 0, 0, 0);
        d.write(1);
        figures(d, 1, 2, 96, 3, 2, 1, 1, 0, 0);
        d.deliver(0);
        figures(d, 0, 1, 35, 0, 2, 1, 1, 0, 0);
        d.feed(2, 0);
        d.write(0);
        figures(d, 0, 3, 66, 0, 3, 1, 0, 0, 0);
        d.deliver(1);
        figures(d, 1, 3, 96, 2, 3, 1, 0, 0, 0);
        d.write(1);
        d.deliver(0);
        figures(d, 1, 3, 16, 2, 3, 1, 1, 0, 0);
        figures(d, 0, 3, 66, 0, 3, 1, 0, 1, 0);
        d.clear();
        figures(d, 0, 0, 0, 0, 0, 0, 0, 0, 0);
        figures(d, 1, 0, 0, 0, 0, 0, 0, 0, 0);
    }

    private static void figuresOfPsks() {
        Both d = new Both("figures of psks");
        d.setPattern("e psk s / psk e psk");
        d.begin(1);
        d.write(0);
        figures(d, 0, 2, 96, 0, 1, 1, 2, 0, 1);
        d.deliver(1);
        figures(d, 1, 1, 0, 0, 1, 1, 2, 0, 1);
        d.write(1);
        figures(d, 1, 3, 48, 0, 2, 1, 0, 0, 3);
        d.alter(1, 0, 1);
        d.deliver(0).is(-1);
        figures(d, 0, 4, 96, 0, 1, 0, 0, 0, 0);
    }

    /** Both sides come to the same h, chain key and keys, each byte of them. */
    private static void bothSeeTheSame() {
        for (int hash = 0; hash < 2; hash++) {
            Both d = new Both("same keys, hash " + hash);
            d.setKeys();
            d.setPattern("e / e ee s es / s se psk");
            d.begin(hash);
            for (int m = 0; m < 3; m++) {
                d.write(m % 2);
                d.deliver(1 - m % 2).is(0);
                int[][] pairs = m < 2 ? new int[][] {{2, 2}, {3, 3}} : new int[][] {{2, 2}, {4, 5}, {5, 4}};
                for (int[] pair : pairs) {
                    for (int k = 0; k < 32; k++) {
                        d.at(1, pair[1], k).is(Long.parseLong(d.at(0, pair[0], k).text));
                    }
                }
            }
        }
    }
}
