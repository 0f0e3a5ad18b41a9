import java.math.BigInteger;
import java.security.GeneralSecurityException;
import java.util.Arrays;
import javax.crypto.Cipher;
import javax.crypto.Mac;
import javax.crypto.spec.ChaCha20ParameterSpec;
import javax.crypto.spec.SecretKeySpec;

/** The boundary cases of promises 12 to 14 once split, of 16 and 17, and of the terms that tell of sealing. */
public final class SplitEdgesTest {
    private static final String TWO = "e / e ee";
    private static final BigInteger MODULUS = BigInteger.TWO.pow(130).subtract(BigInteger.valueOf(5));
    private static final BigInteger TWO_128 = BigInteger.TWO.pow(128);

    public static void main(String[] args) {
        Edge.of("Terms", "K0, K1 are O1, O2 of the spread of ck with no bytes", SplitEdgesTest::spreadOfNoBytes);
        Edge.of("Terms", "each with a number from 0 on, and no head", SplitEdgesTest::numbersFromNought);
        Edge.of("Terms", "In a pattern of one message nobody sends with K1.", SplitEdgesTest::silentParty);
        Edge.of("Promise 12", "or, split, may not send", SplitEdgesTest::silentWriter);
        Edge.of("Promise 13", "or, split, the other one may not send", SplitEdgesTest::readerOfSilent);
        Edge.of("Promise 12", "or the message would have more than 1024 bytes", SplitEdgesTest::longest);
        Edge.of("Promise 12", "or its number is 2^64 - 1", SplitEdgesTest::lastNumberForSending);
        Edge.of("Promise 13", "or its number is 2^64 - 1", SplitEdgesTest::lastNumberForOpening);
        Edge.of("Terms", "Number 2^64 - 1 is never used for a message", SplitEdgesTest::lastButOne);
        Edge.of("Terms", "(One that is split and fails to open stays as it is.)", SplitEdgesTest::staysAsItIs);
        Edge.of("Promise 13", "which is used up (also when that fails with -1)", SplitEdgesTest::usedUp);
        Edge.of("Terms", "it fails if there are fewer than 16 bytes", SplitEdgesTest::fewerThanSixteen);
        Edge.of("Terms", "or the last 16 are not that tally", SplitEdgesTest::alteredTally);
        Edge.of("Terms", "0s up to a multiple of 16, the text (sealed), 0s likewise", SplitEdgesTest::sizesOfTexts);
        Edge.of("Terms", "modulo 2^130 - 5. The tally is A + S modulo 2^128", SplitEdgesTest::tallies);
        Edge.of("Promise 16", "there is no such party", SplitEdgesTest::numberOfNoParty);
        Edge.of("Promise 16", "IllegalStateException when it is not split", SplitEdgesTest::notSplit);
        Edge.of("Promise 16", "next is v (without sign)", SplitEdgesTest::withoutSign);
        Edge.of("Promise 17", "Throws as number does.", SplitEdgesTest::rekeyRefused);
        Edge.of("Terms", "sealed under it with that number and no head", SplitEdgesTest::rekeyAtAnyNumber);
        Answer.end();
    }

    private static byte[] hmac(byte[] key, byte[] row) {
        try {
            Mac mac = Mac.getInstance("HmacSHA256");
            mac.init(new SecretKeySpec(key, "HmacSHA256"));
            return mac.doFinal(row);
        } catch (GeneralSecurityException e) {
            throw new AssertionError(e);
        }
    }

    /** A pattern of e alone never mixes the chain key: it is still the hash that it begins with. */
    private static void spreadOfNoBytes(Both d) {
        byte[] t = hmac(Model.digest(Model.bytes(0, 1, 0, 0, 0, 7)), Model.NONE);
        byte[] first = hmac(t, Model.bytes(1));
        byte[] second = hmac(t, Model.join(first, Model.bytes(2)));
        d.greetWhole("e", 0);
        for (int k = 0; k < 32; k++) {
            d.at(0, 4, k).is(first[k] & 255);
            d.at(1, 5, k).is(first[k] & 255);
            d.at(0, 5, k).is(second[k] & 255);
            d.at(1, 4, k).is(second[k] & 255);
        }
    }

    private static void numbersFromNought(Both d) {
        d.greet("e / e ee / s psk", 0, 2);
        d.look(1, 5).is(1);
        d.write(0);
        d.deliver(1);
        for (int party = 0; party < 2; party++) {
            d.look(party, 5).is(0);
            d.look(party, 6).is(0);
        }
        d.fill(5);
        byte[] sealed = Model.cipher(true, d.model.sides[1].k, 0, Model.NONE, Model.counting(5));
        d.write(1).is(21);
        for (int k = 0; k < 21; k++) {
            d.at(1, 0, k).is(sealed[k] & 255);
        }
        d.look(1, 5).is(1);
        d.look(1, 6).is(0);
        d.deliver(0).is(5);
        d.look(0, 5).is(0);
        d.look(0, 6).is(1);
    }

    /** Its key and number are there all the same, and change nothing about that; K0 is sent with. */
    private static void silentParty(Both d) {
        d.greetWhole("s1 : e es", 0);
        d.number(1, true, 3).isNothing();
        d.number(0, false, 3).isNothing();
        d.rekey(1, true).isNothing();
        d.rekey(0, false).isNothing();
        d.write(1).refusesState();
        d.deliver(0).refusesState();
        d.write(0).is(16);
        d.deliver(1).is(0);
    }

    private static void silentWriter(Both d) {
        d.greetWhole("e", 1);
        d.fill(20);
        d.write(1).refusesState();
        d.wipe().is(20);
        d.write(1).refusesState();
        for (String pattern : new String[] {TWO, "e / e ee / s se"}) {
            Both longer = d.another();
            longer.greetWhole(pattern, 0);
            longer.write(1).is(16);
        }
    }

    private static void readerOfSilent(Both d) {
        d.greetWhole("e", 1);
        d.fill(20);
        d.read(0).refusesState();
        d.deliver(0).refusesState();
        d.wipe().is(20);
        d.read(0).refusesState();
        for (String pattern : new String[] {TWO, "e / e ee / s se"}) {
            Both longer = d.another();
            longer.greetWhole(pattern, 0);
            longer.write(1).is(16);
            longer.deliver(0).is(0);
            longer.read(0).is(-1);
        }
    }

    private static void longest(Both d) {
        for (int party = 0; party < 2; party++) {
            Both full = d.another();
            full.greetWhole(TWO, 0);
            full.fill(1008);
            full.write(party).is(1024);
            full.deliver(1 - party).is(1008);
            byte[] text = Model.counting(1008);
            for (int k : new int[] {0, 63, 64, 1007}) {
                full.at(1 - party, 1, k).is(text[k] & 255);
            }
            full.at(1 - party, 1, 1008).refusesElement();
            for (int size : new int[] {1009, 1024}) {
                Both over = d.another();
                over.greetWhole(TWO, 0);
                over.fill(size);
                over.write(party).refusesState();
                over.look(party, 5).is(0);
                over.wipe().is(size);
            }
        }
    }

    private static void lastNumberForSending(Both d) {
        d.greetWhole(TWO, 0);
        d.write(0).is(16);
        d.number(0, true, -1).isNothing();
        d.fill(3);
        d.write(0).refusesState();
        d.wipe().is(3);
        d.look(0, 5).is(-1);
        d.look(0, 1).is(16);
        // The other number does not matter for sending.
        d.number(1, false, -1).isNothing();
        d.write(1).is(16);
        d.number(0, true, 0).isNothing();
        d.write(0).is(16);
    }

    private static void lastNumberForOpening(Both d) {
        d.greetWhole(TWO, 0);
        d.fill(3);
        d.write(0).is(19);
        d.deliver(1).is(3);
        d.number(1, false, -1).isNothing();
        d.fill(4);
        d.read(1).refusesState();
        d.deliver(1).refusesState();
        d.wipe().is(4);
        d.look(1, 2).is(3);
        d.look(1, 6).is(-1);
        // The other number does not matter for opening.
        d.number(0, true, -1).isNothing();
        d.write(1).is(16);
        d.deliver(0).is(0);
        d.number(1, false, 0).isNothing();
        d.deliver(1).is(3);
    }

    private static void lastButOne(Both d) {
        d.greetWhole(TWO, 0);
        d.number(0, true, -2).isNothing();
        d.number(1, false, -2).isNothing();
        d.fill(1);
        d.write(0).is(17);
        d.deliver(1).is(1);
        d.look(0, 5).is(-1);
        d.look(1, 6).is(-1);
        d.write(0).refusesState();
        d.deliver(1).refusesState();
        d.read(1).refusesState();
        // A message that does not open leaves the number below it.
        Both failing = d.another();
        failing.greetWhole(TWO, 0);
        failing.number(1, false, -2).isNothing();
        failing.read(1).is(-1);
        failing.look(1, 6).is(-2);
        failing.read(1).is(-1);
    }

    private static void staysAsItIs(Both d) {
        d.greetWhole(TWO, 0);
        d.fill(3);
        d.write(1).is(19);
        d.write(0).is(16);
        d.deliver(1).is(0);
        d.alter(0, 0, 1);
        long[] key = new long[32];
        for (int k = 0; k < 32; k++) {
            key[k] = Long.parseLong(d.at(1, 5, k).text);
        }
        d.deliver(1).is(-1);
        d.look(1, 0).is(3);
        d.look(1, 1).is(19);
        d.look(1, 2).is(0);
        d.look(1, 3).is(2);
        d.look(1, 4).is(1);
        d.look(1, 5).is(1);
        d.look(1, 6).is(1);
        for (int k = 0; k < 32; k++) {
            d.at(1, 5, k).is(key[k]);
        }
        d.seeSome(1);
        d.fill(2);
        d.write(0).is(18);
        d.deliver(1).is(2);
        d.look(1, 6).is(2);
        // IN is empty when that fails, here too.
        d.deliver(1).is(-1);
        d.look(1, 2).is(0);
        d.at(1, 1, 0).refusesElement();
        d.write(1).is(16);
    }

    private static void usedUp(Both d) {
        d.greetWhole(TWO, 0);
        d.fill(40);
        d.read(1).is(-1);
        d.wipe().is(0);
        d.read(0).is(-1);
        d.wipe().is(0);
        d.fill(40);
        d.deliver(0).is(-1);
        d.wipe().is(40);
    }

    private static void fewerThanSixteen(Both d) {
        d.greetWhole(TWO, 0);
        byte[] sealed = Model.cipher(true, d.model.sides[0].k, 0, Model.NONE, Model.NONE);
        for (int size : new int[] {0, 1, 14, 15}) {
            d.feedAll(Arrays.copyOf(sealed, size));
            d.read(1).is(-1);
        }
        d.feedAll(sealed);
        d.read(1).is(0);
        d.look(1, 2).is(0);
        d.look(1, 6).is(1);
        // No byte of the text may be lost or added either.
        byte[] longer = Model.cipher(true, d.model.sides[0].k, 1, Model.NONE, Model.bytes(0));
        d.feedAll(Arrays.copyOf(longer, 16));
        d.read(1).is(-1);
        d.feedAll(Arrays.copyOf(longer, 18));
        d.read(1).is(-1);
        d.feedAll(longer);
        d.read(1).is(1);
    }

    private static void alteredTally(Both d) {
        d.greetWhole(TWO, 1);
        d.fill(2);
        d.write(0).is(18);
        for (int i = 2; i < 18; i++) {
            for (int mask : new int[] {1, 128}) {
                d.alter(0, i, mask);
                d.deliver(1).is(-1);
                d.alter(0, i, mask);
            }
        }
        d.alter(0, 0, 1);
        d.deliver(1).is(-1);
        d.alter(0, 0, 1);
        d.deliver(1).is(2);
    }

    /** All bytes, those of the longest by parts, since an object is used for 512 calls at most. */
    private static void sizesOfTexts(Both d) {
        for (int size : new int[] {0, 1, 15, 16, 17, 31, 32, 33, 47, 48, 49, 63, 64, 65, 127, 128, 129}) {
            sealedIs(d, size, 0, size + 16);
        }
        for (int from = 0; from < 1024; from += 128) {
            sealedIs(d, 1008, from, from + 128);
        }
    }

    private static void sealedIs(Both d, int size, int from, int end) {
        Both one = new Both(d.name + ", a text of " + size);
        one.greetWhole(TWO, 0);
        byte[] want = Model.cipher(true, one.model.sides[0].k, 0, Model.NONE, Model.counting(size));
        one.fill(size);
        one.write(0).is(size + 16);
        for (int k = from; k < end; k++) {
            one.at(0, 0, k).is(want[k] & 255);
        }
        one.deliver(1).is(size);
    }

    /** A is led to just where it must be taken modulo 2^130 - 5, and the sum with S to where it wraps. */
    private static void tallies(Both d) {
        for (int i = 0; i <= 6; i++) {
            tallyFrom(d, BigInteger.valueOf(i));
            tallyFrom(d, MODULUS.subtract(BigInteger.valueOf(1 + i)));
            tallyFrom(d, TWO_128.add(BigInteger.valueOf(i - 3)));
            tallyFrom(d, TWO_128.shiftLeft(1).add(BigInteger.valueOf(i - 3)));
        }
        for (int i = -1; i <= 1; i++) {
            BigInteger s = Model.number(Arrays.copyOfRange(firstBlock(keyOfSplit(d)), 16, 32));
            tallyFrom(d, TWO_128.subtract(s).add(BigInteger.valueOf(i)));
        }
    }

    private static byte[] keyOfSplit(Both d) {
        Both one = d.another();
        one.greetWhole(TWO, 0);
        return one.model.sides[0].k;
    }

    private static byte[] firstBlock(byte[] key) {
        return blocks(key, 0, new byte[64]);
    }

    /** The library's own key blocks, from a counter on, ^ a text. */
    private static byte[] blocks(byte[] key, int counter, byte[] text) {
        try {
            Cipher cipher = Cipher.getInstance("ChaCha20");
            cipher.init(Cipher.ENCRYPT_MODE, new SecretKeySpec(key, "ChaCha20"),
                new ChaCha20ParameterSpec(new byte[12], counter));
            return cipher.doFinal(text);
        } catch (GeneralSecurityException e) {
            throw new AssertionError(e);
        }
    }

    private static void tallyFrom(Both d, BigInteger a) {
        Both one = new Both(d.name + ", A being " + a);
        one.greetWhole(TWO, 0);
        byte[] key = one.model.sides[0].k;
        byte[] block = firstBlock(key);
        BigInteger r = Model.number(Arrays.copyOf(block, 16))
            .and(new BigInteger("0ffffffc0ffffffc0ffffffc0fffffff", 16));
        BigInteger s = Model.number(Arrays.copyOfRange(block, 16, 32));
        byte[] sealed = textWithTally(r, a);
        one.feedAll(blocks(key, 1, sealed));
        one.write(0).is(48);
        byte[] tally = Model.row(a.add(s).mod(TWO_128));
        for (int k = 0; k < 16; k++) {
            one.at(0, 0, k).is(sealed[k] & 255);
            one.at(0, 0, 16 + k).is(sealed[16 + k] & 255);
            one.at(0, 0, 32 + k).is(tally[k] & 255);
        }
        one.deliver(1).is(32);
    }

    /** Two parts of a text: the first is tried until the second, which leads to A, has but 16 bytes. */
    private static byte[] textWithTally(BigInteger r, BigInteger a) {
        BigInteger inverse = r.modInverse(MODULUS);
        BigInteger sizes = BigInteger.valueOf(32).shiftLeft(64).add(TWO_128);
        for (int tried = 0; tried < 200; tried++) {
            BigInteger first = BigInteger.valueOf(tried);
            BigInteger behindSecond = a.multiply(inverse).subtract(sizes);
            BigInteger second = behindSecond.multiply(inverse).subtract(first.add(TWO_128).multiply(r))
                .subtract(TWO_128).mod(MODULUS);
            if (second.bitLength() <= 128) {
                return Model.join(Arrays.copyOf(Model.row(first), 16), Arrays.copyOf(Model.row(second), 16));
            }
        }
        throw new AssertionError("no text was found");
    }

    private static void numberOfNoParty(Both d) {
        d.greetWhole(TWO, 0);
        for (int party : Edge.NOT_0_1) {
            d.number(party, true, 1).refusesArgument();
            d.number(party, false, 1).refusesArgument();
            d.rekey(party, true).refusesArgument();
            d.rekey(party, false).refusesArgument();
        }
    }

    private static void refuseNumbers(Both d, int party) {
        d.number(party, true, 1).refusesState();
        d.number(party, false, 1).refusesState();
        d.rekey(party, true).refusesState();
        d.rekey(party, false).refusesState();
    }

    /** One party may be split while the other one is not yet, or has failed. */
    private static void notSplit(Both d) {
        refuseNumbers(d, 0);
        refuseNumbers(d, 1);
        d.greet("s1 : e es / e ee", 0, 0);
        refuseNumbers(d, 0);
        refuseNumbers(d, 1);
        d.write(0);
        d.deliver(1);
        d.look(0, 5).is(1);
        refuseNumbers(d, 0);
        refuseNumbers(d, 1);
        d.write(1);
        refuseNumbers(d, 0);
        d.number(1, true, 1).isNothing();
        d.rekey(1, false).isNothing();
        d.alter(1, 0, 1);
        d.deliver(0).is(-1);
        refuseNumbers(d, 0);
        d.clear();
        refuseNumbers(d, 1);
    }

    private static void withoutSign(Both d) {
        long[] numbers = {0, 1, 255, 256, 0x7fffffffL, 0x80000000L, 0xffffffffL, 0x100000000L,
            Long.MAX_VALUE, Long.MIN_VALUE, Long.MIN_VALUE + 1, -256, -2};
        for (long v : numbers) {
            Both one = new Both(d.name + ", v being " + v);
            one.greetWhole(TWO, 1);
            one.number(1, true, v).isNothing();
            one.look(1, 5).is(v);
            one.look(1, 6).is(0);
            one.fill(8);
            byte[] want = Model.cipher(true, one.model.sides[1].k, v, Model.NONE, Model.counting(8));
            one.write(1).is(24);
            for (int k = 0; k < 24; k++) {
                one.at(1, 0, k).is(want[k] & 255);
            }
            one.look(1, 5).is(v + 1);
            one.number(0, false, v + 1).isNothing();
            if (v != -2) {
                one.deliver(0).is(-1);
            }
            one.number(0, false, v).isNothing();
            one.look(0, 6).is(v);
            one.look(0, 5).is(0);
            one.deliver(0).is(8);
            one.look(0, 6).is(v + 1);
        }
    }

    private static void rekeyRefused(Both d) {
        Edge.inEachBegunState(d, begun -> {
            begun.rekey(2, true).refusesArgument();
            begun.rekey(-1, false).refusesArgument();
        });
        d.rekey(0, true).refusesState();
        d.rekey(1, false).refusesState();
        Both failed = d.another();
        failed.greet(TWO, 0, 0);
        failed.rekey(0, true).refusesState();
        failed.read(1).is(-1);
        failed.rekey(1, true).refusesState();
        failed.rekey(1, false).refusesState();
    }

    /** Also at number 2^64 - 1; the number stays, and so does the other key. */
    private static void rekeyAtAnyNumber(Both d) {
        for (long v : new long[] {0, 5, Long.MIN_VALUE, -1}) {
            Both one = d.another();
            one.greetWhole(TWO, 0);
            one.number(0, true, v).isNothing();
            one.number(1, false, v).isNothing();
            byte[] other = one.model.sides[0].openKey;
            byte[] want = Arrays.copyOf(
                Model.cipher(true, one.model.sides[0].k, -1, Model.NONE, new byte[32]), 32);
            one.rekey(0, true).isNothing();
            one.rekey(1, false).isNothing();
            for (int k = 0; k < 32; k++) {
                one.at(0, 4, k).is(want[k] & 255);
                one.at(1, 5, k).is(want[k] & 255);
                one.at(0, 5, k).is(other[k] & 255);
                one.at(1, 4, k).is(other[k] & 255);
            }
            one.look(0, 5).is(v);
            one.look(0, 6).is(0);
            one.look(1, 6).is(v);
            one.look(1, 5).is(0);
        }
    }
}
