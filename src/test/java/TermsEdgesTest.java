import java.math.BigInteger;
import java.util.Arrays;

/** The boundary cases of promises 18 to 20, and of the terms that tell of hashes and of the curve. */
public final class TermsEdgesTest {
    /** How many bytes 1, 8, 15, ..; hash 0; hash 1: made by another program. */
    private static final String[][] HASHES = {
        {"0", "e3b0c44298fc1c149afbf4c8996fb92427ae41e4649b934ca495991b7852b855",
            "69217a3079908094e11121d042354a7c1f55b6482ca1a51e1b250dfd1ed0eef9"},
        {"1", "4bf5122f344554c53bde2ebb8cd2b7e3d1600ad631c385a5d7cce23c7785459a",
            "fc87f4f1d721942d282aa61989c069b290d1447d20d4b811430f47ea0edf9991"},
        {"55", "16fa57a0a3423a715d594516339f36189d6b5f93754a9714fef202616a9fabfe",
            "84203a1a54be0b3eddb8c258a0723a5ab05d17be19e25d0562850fe87739e1c0"},
        {"56", "c37b44e5f1b18554b36966f4f8e08bfbf3164c4b6c10374d12d89850892073c5",
            "6e677c38dbe4df671fd2f9dbf6b6c8e1506331c5faea7f9a52279a85f3cabb9b"},
        {"57", "12b234922502022f755ab8550a3d4e202ad39c81d961a4f59ec39d5fd83d15a7",
            "f5ea00a077b08c16b514530e5ba8124cea48502c2dfcc574ba9d9f9831e2d08d"},
        {"63", "bbba992d2c85af960fb2987a1fd05e0aa82a3db3c740dd8982a9e273b75e36a3",
            "1eb51f779a72302e5fefda03270fda3d9bf02cfdcd0a50d10e52c6e6fafbd4ea"},
        {"64", "66bd4633ed6f71c4ecfa4763bf7ba1c8ec7612de9aa6c0578a7b675207c71e0b",
            "1aa2abc48784c4b7b509e56540ccde672903c613c7aa32c1396e10d716351dfe"},
        {"65", "9f7dc47107b750a1f3d35db5d9547f24ef40da5b731b9540d4f43710a154f6c9",
            "6abfa13e2982b1bbba3b960049261555c146e4aa817ef504bac543407bdec579"},
        {"119", "a3ed307b730fa77c07531300c6e4a282330011d4d4caf6bb7b63ae05950f4b66",
            "defd615e248e7930922d7652584e91f1c0fe7ccf62068897f99218e9b88e3e6a"},
        {"120", "8e3b15d9fea7472655aa069620b7f8c2e55ee1499f763200a7515fe826e99d20",
            "8284ea2fae317f57e11499ab6f614bfcc58047f8e272bc618088f3685c7c5116"},
        {"127", "44480fb9672845177f5368a08b69ea263275f2a5ec42e06a933370fe0d2968a4",
            "9b2b103f6b5a7e6b2866054f884ba37862f7a46a9d4cc8a2abc289b569b8a500"},
        {"128", "e462c130fef8c97e34f7dc3ff3ad2f8b3533ab849af21c10531552a2852387a4",
            "967fcb84c270978f862307b30b51e082f41ee21bff4088f1b3c399a1da06d61a"},
        {"129", "aa7ea4e8bf89146aeb67ff195fd8182a0e504c9d580aa7af8d2c862e14b98405",
            "6a26a297d38b1db1f7395f944d33c4f08e5c035b92ff54b2dbf5ba7462ea9133"},
        {"1015", "676cd569d4e5769b91510b1c22d0eba6b7a8cda9648ee1cae89cd1bff85be517",
            "b36116c07a5027a5d828ff293049d1b5c3058cb854ea4a09452ca9d0441f4d36"},
        {"1016", "332694c4b0e9029cfd173b73c3df813a18e4efdfd32d35eeff21ffce34b81582",
            "190f756d2d851b418047f0f0d8b4e2c55ada814f0769cf281ddcf42c7b6e0796"},
        {"1023", "33cfefd02b103fc0be0bd542c2c80eed6fb40cb183642d0b4f5977a1261eb87d",
            "26e91a3aa14cc8ec9c8819ea9081e5fd97f331613ba70127cdb9b07718cfbce2"},
        {"1024", "e5d3668c0de55a2cbcb398253ca48b100ae59af4ec2a7214672db89033b8d416",
            "af5cd7ed6185072a3ad0bc0c58788c2870022032bf2ed3bc9a7d5e49366849d3"},
    };

    /** The same of so many bytes 255. */
    private static final String[][] HASHES_OF_255 = {
        {"1", "a8100ae6aa1940d0b663bb31cd466142ebbdbd5187131b92d93818987832eb89",
            "8a1ef126b4e286703744a80b2f414be700cc93023e7bfc8688b79b54931abd27"},
        {"64", "8667e718294e9e0df1d30600ba3eeb201f764aad2dad72748643e4a285e1d1f7",
            "ee92d9d765aac654bc062ea8e24456bb1a73c86643bdac7ec4ff2efd81721063"},
        {"128", "e9175db65a9789096ca9cb5524d3abc2107df03e3c9ba3af1aca628f9c5d3bd2",
            "20dfe3ad1ecfd9d3e9e9f0762349556b1f4e79701719cfb4933e42fdc6542df0"},
        {"1024", "5f4ecdb7b71c3e403983fe405cddcdc2f2576b655fdb3e80d94a6f7c32e58bc2",
            "b5afa6c3e01240a4be8662400e1353f67317e0c65977ab2ef7f8827cef962fd0"},
    };

    /** How many agreements there are at most, but for a few: on the curve, and on its twist. */
    private static final BigInteger CURVE =
        BigInteger.TWO.pow(252).add(new BigInteger("27742317777372353535851937790883648493"));
    private static final BigInteger TWIST =
        BigInteger.TWO.pow(253).subtract(new BigInteger("55484635554744707071703875581767296995"));

    private static final String NOUGHT = "00".repeat(32);

    public static void main(String[] args) {
        Edge.of("Terms", "as many 0s as are needed for 8 less than a multiple of 64",
            d -> hashesAre(d, 0, HASHES, false));
        Edge.of("Terms", "with 0s behind them, in parts of 64 (one at least)", d -> hashesAre(d, 1, HASHES, false));
        Edge.of("Terms", "sums of words wrap", d -> hashesAre(d, 0, HASHES_OF_255, true));
        Edge.of("Terms", "sums of words wrap", d -> hashesAre(d, 1, HASHES_OF_255, true));
        Edge.of("Promise 18", "IllegalArgumentException for another hash", TermsEdgesTest::otherHash);
        Edge.of("Terms", "of which the bits 0, 1, 2 and 255 become 0, bit 254 becomes 1", TermsEdgesTest::setBits);
        Edge.of("Terms", "bit 255 taken as 0", TermsEdgesTest::highestBit);
        Edge.of("Terms", "lowest first, bit 255 taken as 0; modulo q", TermsEdgesTest::aboveQ);
        Edge.of("Terms", "numbers modulo q = 2^255 - 19", TermsEdgesTest::agreementsNearQ);
        Edge.of("Terms", "numbers modulo q = 2^255 - 19", TermsEdgesTest::agreementsWithRuns);
        Edge.of("Terms", "The agreement is x2 * z2^(q - 2)", TermsEdgesTest::agreementsOfNought);
        Edge.of("Terms", "The PUBLIC key of k: the agreement with 9.", TermsEdgesTest::publicKey);
        Edge.of("Promise 19", "it has not 64 bytes", TermsEdgesTest::sizesForAgree);
        Edge.of("Promise 20", "k is not 0 .. 31", TermsEdgesTest::noSuchByte);
        Edge.of("Promise 20", "Byte k of the RESULT (0s at first).", TermsEdgesTest::resultAtFirst);
        Edge.of("Terms", "BYTES are 0 .. 255", TermsEdgesTest::highBytes);
        Answer.end();
    }

    private static void hashesAre(Both d, int hash, String[][] lines, boolean all255) {
        for (String[] line : lines) {
            int size = Integer.parseInt(line[0]);
            byte[] row = Model.counting(size);
            if (all255) {
                Arrays.fill(row, (byte) 255);
            }
            Both one = new Both(d.name + ", hash " + hash + " of " + size);
            one.feedAll(row);
            one.hash(hash).isNothing();
            one.resultIs(line[1 + hash]);
            one.wipe().is(0);
            // What it leaves inside does not show in the next hash.
            one.hash(hash).isNothing();
            one.resultIs(HASHES[0][1 + hash]);
        }
    }

    private static void otherHash(Both d) {
        d.hash(0).isNothing();
        d.fill(3);
        for (int hash : Edge.NOT_0_1) {
            d.hash(hash).refusesArgument();
        }
        d.resultIs(HASHES[0][1]);
        d.wipe().is(3);
    }

    private static long[] agreement(Both d, BigInteger privateKey, BigInteger publicKey) {
        d.feedAll(Model.row(privateKey));
        d.feedAll(Model.row(publicKey));
        d.agree().isNothing();
        long[] result = new long[32];
        for (int k = 0; k < 32; k++) {
            result[k] = Long.parseLong(d.result(k).text);
        }
        return result;
    }

    private static void dueRow(Both d, String what, long[] got, long[] want, boolean same) {
        Answer.due(d.name + ": whether " + what + " is the same",
            Boolean.toString(Arrays.equals(got, want)), Boolean.toString(same));
    }

    private static BigInteger someKey() {
        return Model.number(Model.digest(Model.bytes(1)));
    }

    private static void setBits(Both d) {
        long[] want = agreement(d, someKey(), BigInteger.valueOf(9));
        for (int bit : new int[] {0, 1, 2, 254, 255}) {
            dueRow(d, "with bit " + bit, agreement(d, someKey().flipBit(bit), BigInteger.valueOf(9)), want, true);
        }
        Both other = d.another();
        for (int bit : new int[] {3, 7, 8, 248, 253}) {
            dueRow(d, "with bit " + bit, agreement(other, someKey().flipBit(bit), BigInteger.valueOf(9)), want, false);
        }
        // All bits 0 and all bits 1.
        BigInteger ones = BigInteger.ONE.shiftLeft(256).subtract(BigInteger.ONE);
        Both ends = d.another();
        BigInteger least = BigInteger.ONE.shiftLeft(254);
        BigInteger greatest = BigInteger.ONE.shiftLeft(255).subtract(BigInteger.valueOf(8));
        dueRow(d, "0 and 2^254", agreement(ends, BigInteger.ZERO, BigInteger.valueOf(9)),
            agreement(ends, least, BigInteger.valueOf(9)), true);
        dueRow(d, "all bits and 2^255 - 8", agreement(ends, ones, BigInteger.valueOf(9)),
            agreement(ends, greatest, BigInteger.valueOf(9)), true);
    }

    private static void highestBit(Both d) {
        BigInteger[] publics = {
            BigInteger.ZERO, BigInteger.valueOf(9), Model.number(Model.digest(Model.bytes(2))).clearBit(255), Model.Q};
        for (BigInteger open : publics) {
            Both one = d.another();
            long[] want = agreement(one, someKey(), open);
            dueRow(one, "with bit 255", agreement(one, someKey(), open.setBit(255)), want, true);
        }
    }

    /** q + 0 .. q + 18 are the numbers from q on that bit 255 leaves. */
    private static void aboveQ(Both d) {
        for (int small = 0; small < 19; small++) {
            Both one = new Both(d.name + ", q + " + small);
            long[] want = agreement(one, someKey(), BigInteger.valueOf(small));
            dueRow(one, "q more", agreement(one, someKey(), Model.Q.add(BigInteger.valueOf(small))), want, true);
        }
        Both below = new Both(d.name + ", q - 2");
        agreement(below, someKey(), Model.Q.subtract(BigInteger.TWO));
    }

    /**
     * Agreements on the least numbers, to which q could be added below 2^255, and on the greatest ones below q.
     * Not every number can be agreed on; those that can are found by the model.
     */
    private static void agreementsNearQ(Both d) {
        int small = 0;
        int great = 0;
        for (int i = 2; i < 40; i++) {
            small += agreedOn(d, BigInteger.valueOf(i)) ? 1 : 0;
            great += agreedOn(d, Model.Q.subtract(BigInteger.valueOf(i))) ? 1 : 0;
        }
        Answer.due(d.name + ": whether some were found", Boolean.toString(small > 3 && great > 3), "true");
    }

    /** Agreements on numbers with many 0s or 1s in a row, wherever they stand: there a carry goes far or is lost. */
    private static void agreementsWithRuns(Both d) {
        for (int from = 0; from < 220; from += 10) {
            BigInteger run = BigInteger.TWO.pow(36).subtract(BigInteger.ONE).shiftLeft(from);
            int zeros = 0;
            int ones = 0;
            for (int i = 0; i < 100 && (zeros < 2 || ones < 2); i++) {
                BigInteger number = Model.number(Model.digest(Model.bytes(from, i))).clearBit(255).clearBit(254);
                zeros += zeros < 2 && agreedOn(d, number.andNot(run)) ? 1 : 0;
                ones += ones < 2 && agreedOn(d, number.or(run)) ? 1 : 0;
            }
            Answer.due(d.name + ": numbers found with a run at " + from, zeros + " and " + ones, "2 and 2");
        }
    }

    /** The public key comes from the number by a private key that the other one undoes. */
    private static boolean agreedOn(Both d, BigInteger wanted) {
        for (BigInteger[] pair : new BigInteger[][] {keyAndUndoing(CURVE), keyAndUndoing(TWIST)}) {
            byte[] key = Model.row(pair[0]);
            byte[] open = Model.agree(Model.row(pair[1]), Model.row(wanted));
            if (Model.number(Model.agree(key, open)).equals(wanted)) {
                Both one = new Both(d.name + ", agreement on " + wanted);
                one.feedAll(key);
                one.feedAll(open);
                one.agree().isNothing();
                byte[] want = Model.row(wanted);
                for (int k = 0; k < 32; k++) {
                    one.result(k).is(want[k] & 255);
                }
                return true;
            }
        }
        return false;
    }

    /** Two numbers that have the bits of private keys, and whose product is 1 modulo the order. */
    private static BigInteger[] keyAndUndoing(BigInteger order) {
        for (int i = 0; i < 100; i++) {
            BigInteger key = Model.number(Model.digest(Model.bytes(i)));
            key = key.clearBit(0).clearBit(1).clearBit(2).clearBit(255).setBit(254);
            BigInteger back = key.modInverse(order);
            while (back.bitLength() < 255 || back.bitLength() == 255 && back.getLowestSetBit() < 3) {
                back = back.add(order);
            }
            if (back.bitLength() == 255) {
                return new BigInteger[] {key, back};
            }
        }
        throw new AssertionError("no such keys were found");
    }

    /** Public keys with which every private key comes to z2 = 0, whose power is 0. */
    private static void agreementsOfNought(Both d) {
        BigInteger[] publics = {
            BigInteger.ZERO, BigInteger.ONE, Model.Q.subtract(BigInteger.ONE), Model.Q, Model.Q.add(BigInteger.ONE),
            new BigInteger("325606250916557431795983626356110631294008115727848805560023387167927233504"),
            new BigInteger("39382357235489614581723060781553021112529911719440698176882885853963445705823"),
        };
        for (BigInteger open : publics) {
            Both one = new Both(d.name + ", public key " + open);
            one.hash(0);
            one.feedAll(Model.row(someKey()));
            one.feedAll(Model.row(open));
            one.agree().isNothing();
            one.resultIs(NOUGHT);
        }
    }

    private static void publicKey(Both d) {
        // The least and the greatest private key.
        d.feedAll(new byte[32]);
        d.feedAll(Model.row(BigInteger.valueOf(9)));
        d.agree().isNothing();
        d.resultIs("2fe57da347cd62431528daac5fbb290730fff684afc4cfc2ed90995f58cb3b74");
        byte[] ones = new byte[32];
        Arrays.fill(ones, (byte) 255);
        d.feedAll(ones);
        d.feedAll(Model.row(BigInteger.valueOf(9)));
        d.agree().isNothing();
        d.resultIs("847c0d2c375234f365e660955187a3735a0f7613d1609d3a6a4d8c53aeaa5a22");
    }

    private static void sizesForAgree(Both d) {
        for (int size : new int[] {0, 1, 32, 63, 65, 128, 1024}) {
            Both one = d.another();
            one.hash(0);
            one.fill(size);
            one.agree().refusesArgument();
            one.result(0).is(0xe3);
            one.wipe().is(size);
        }
        d.fill(64);
        d.agree().isNothing();
        d.wipe().is(0);
    }

    private static void noSuchByte(Both d) {
        for (int k : new int[] {-1, 32, 33, Integer.MIN_VALUE, Integer.MAX_VALUE}) {
            d.result(k).refusesElement();
        }
        d.hash(0);
        d.result(0).is(0xe3);
        d.result(31).is(0x55);
        d.result(32).refusesElement();
    }

    /** And what greeting does, leaves it alone. */
    private static void resultAtFirst(Both d) {
        d.resultIs(NOUGHT);
        d.greetWhole("e / e ee", 1);
        d.rekey(0, true);
        d.write(0);
        d.deliver(1);
        d.resultIs(NOUGHT);
        d.clear();
        d.hash(0);
        d.clear();
        d.resultIs(HASHES[0][1]);
    }

    /** Where a byte is above 127, by each call that answers one. */
    private static void highBytes(Both d) {
        d.hash(0);
        d.result(0).is(227);
        d.greet("e / e ee", 0, 0);
        d.feed(1, 255);
        d.write(0).is(33);
        d.at(0, 0, 32).is(255);
        d.alter(0, 32, 0).is(255);
        d.deliver(1).is(1);
        d.at(1, 1, 0).is(255);
        d.write(1);
        d.deliver(0);
        for (int what = 2; what < 6; what += what == 2 ? 2 : 1) {
            int high = 0;
            for (int k = 0; k < 32; k++) {
                long b = Long.parseLong(d.at(0, what, k).text);
                Answer.due(d.name + ": whether " + b + " is 0 .. 255", Boolean.toString(b >= 0 && b <= 255), "true");
                high += b > 127 ? 1 : 0;
            }
            Answer.due(d.name + ": whether one is above 127", Boolean.toString(high > 0), "true");
        }
    }
}
