import java.math.BigInteger;
import java.util.Arrays;

/** Promises 18 to 20: the hashes and the curve, against answers that were made elsewhere. */
public final class TermsTest {
    /** How many bytes, byte i being 7 * i and that number, modulo 256; hash 0; hash 1. */
    private static final String[][] HASHES = {
        {"0", "e3b0c44298fc1c149afbf4c8996fb92427ae41e4649b934ca495991b7852b855",
            "69217a3079908094e11121d042354a7c1f55b6482ca1a51e1b250dfd1ed0eef9"},
        {"1", "4bf5122f344554c53bde2ebb8cd2b7e3d1600ad631c385a5d7cce23c7785459a",
            "fc87f4f1d721942d282aa61989c069b290d1447d20d4b811430f47ea0edf9991"},
        {"3", "6ab0dba1f4f1dfbb37b4f9eeb092c09fca4900ad32bdcd147d8dde35d6c87c35",
            "ca943acca89a34cf4040cf8ea24147dd94ea62a49de8ef9a88af5272339927b3"},
        {"63", "733d3d4ee79ee67145bf73da13588f6f235d37414fc64b14a2f00f1762792f5e",
            "5c9eb3e5acf93799a68777f27cdde8e90cb16d511b7983a875ac5dbfa8aca778"},
        {"64", "79322907b3e9d013d7dc2c2f256674dbf733045cde01df3539271c6f5605feb8",
            "85de17b4e2581889b98b948346a970b5291b5d2a2a8ee75b1aa2bbb02b98b211"},
        {"65", "d85c007c6eb440f085afa2b84f6f2bce4658b240e9f62cb1364bf0485a57e720",
            "1c1a9619a26d7cd550199567e5c316eb3db33d96c29790a6c68ba7f1ee8a8803"},
        {"127", "68f6ff710276900c0ffbbc57426f67e00c2e01f0750c7edc25ac06b8ce7a8095",
            "440d16085a6e3685c5cbc450b56cb4cb71a3f707e5eae0d4ca18715a41583fc7"},
        {"128", "489d55fea9a73af36b6dd0be7b4117d8e5683386d39544e8a44c99a87f368707",
            "46bf7abf397f8c8f86566279cba2505c9d255be7409760dc327ae520faaf356a"},
        {"129", "4e1556b2e9a50a3cc9478f3254727b01065f9ac5d2c3a8b4cd538ae7240bb87d",
            "030e44da1226be0765e3ff31a849aca32cb20222ac3dc32ff10670dc95b22534"},
        {"255", "a00e7f00e2acf6905080c3b78319b8a4f159b5974f853484e1486c157151299a",
            "dfece97126c25e39435f2c57642a24ae5091856db626588682095b70dab76917"},
        {"256", "cd0f337ab3e6f7b4f9a40b8278670d102c8101075f064e9960dd29729702712e",
            "d20b5a775a7ab1383e5243d0b1b19da1d4371923c9834829f53f2795ed960bb1"},
        {"1000", "6b0df76627243d095b0c4400cb658b7e804dd03461cc03aee8fc8fe0bcada168",
            "802d01c1238627f67baee29885006cfaab1f07890532935a1ae9354d318df150"},
        {"1023", "6f8cacebf661d658b464fc89c986d9cda1b6696751524d6165a6461eddee28e6",
            "34213e5aef86351ee2f6d21382850a5395e8788d4d1bac30d6bf88f477261593"},
        {"1024", "41a8df8d7a09deeda1ce604e394aca7e77f054f4937b3e51c882a84f67de6d1d",
            "d02b0a554e08f0846844e7b2e05a8c50202b336bb207eae3e25c22b22ab4d9b2"},
    };

    public static void main(String[] args) {
        hashes();
        hashesOfEverySize();
        wrongHashes();
        agreements();
        edgesOfTheCurve();
        agreementsOnNine();
        repeatedAgreements();
        wrongSizes();
        results();
        Answer.end();
    }

    private static byte[] pattern(int size) {
        byte[] row = new byte[size];
        for (int i = 0; i < size; i++) {
            row[i] = (byte) (7 * i + size);
        }
        return row;
    }

    private static void hashes() {
        for (String[] line : HASHES) {
            int size = Integer.parseInt(line[0]);
            for (int hash = 0; hash < 2; hash++) {
                Both d = new Both("hash " + hash + " of " + size + " bytes");
                d.feedAll(pattern(size));
                d.hash(hash).isNothing();
                d.wipe().is(0);
                d.resultIs(line[1 + hash]);
            }
        }
    }

    /** One object for each size, so that what a longer hash left behind is met by a shorter one. */
    private static void hashesOfEverySize() {
        for (int size = 0; size <= 200; size++) {
            Both d = new Both("hashes of " + size + " bytes behind longer ones");
            for (int hash = 0; hash < 2; hash++) {
                d.feedAll(pattern(size + 70));
                d.hash(hash);
                d.feedAll(pattern(size));
                d.hash(hash);
                for (int k = 0; k < 32; k++) {
                    d.result(k);
                }
            }
        }
    }

    private static void wrongHashes() {
        Both d = new Both("wrong hashes");
        d.feed(3, 0x636261);
        for (int bad : new int[] {-1, 2, Integer.MIN_VALUE, Integer.MAX_VALUE}) {
            d.hash(bad).refusesArgument();
        }
        d.result(0).is(0);
        d.wipe().is(3);
    }

    private static byte[] row(String hex) {
        byte[] row = new byte[hex.length() / 2];
        for (int i = 0; i < row.length; i++) {
            row[i] = (byte) Integer.parseInt(hex.substring(2 * i, 2 * i + 2), 16);
        }
        return row;
    }

    private static void agreements() {
        String[][] lines = {
            {"a546e36bf0527c9d3b16154b82465edd62144c0ac1fc5a18506a2244ba449ac4",
                "e6db6867583030db3594c1a424b15f7c726624ec26b3353b10a903a6d0ab1c4c",
                "c3da55379de9c6908e94ea4df28d084f32eccf03491c71f754b4075577a28552"},
            {"4b66e9d4d1b4673c5ad22691957d6af5c11b6421e0ea01d42ca4169e7918ba0d",
                "e5210f12786811d3f4b7959d0538ae2c31dbe7106fc03c3efc4cd549c715a493",
                "95cbde9476e8907d7aade45cb4b873f88b595a68799fa152e6f8f7647aac7957"},
            {"0900000000000000000000000000000000000000000000000000000000000000",
                "0900000000000000000000000000000000000000000000000000000000000000",
                "422c8e7a6227d7bca1350b3e2bb7279f7897b87bb6854b783c60e80311ae3079"},
        };
        for (String[] line : lines) {
            Both d = new Both("agreement of " + line[0]);
            d.feedAll(row(line[0]));
            d.feedAll(row(line[1]));
            d.agree().isNothing();
            d.wipe().is(0);
            d.resultIs(line[2]);
        }
    }

    private static void edgesOfTheCurve() {
        BigInteger two255 = BigInteger.TWO.pow(255);
        BigInteger[] publics = {
            BigInteger.ZERO, BigInteger.ONE, BigInteger.TWO, Model.Q.subtract(BigInteger.TWO),
            Model.Q.subtract(BigInteger.ONE), Model.Q, Model.Q.add(BigInteger.ONE), Model.Q.add(BigInteger.valueOf(9)),
            two255.subtract(BigInteger.ONE), two255, two255.add(BigInteger.valueOf(9)),
            two255.multiply(BigInteger.TWO).subtract(BigInteger.ONE), BigInteger.TWO.pow(254),
            new BigInteger("325606250916557431795983626356110631294008115727848805560023387167927233504"),
            new BigInteger("39382357235489614581723060781553021112529911719440698176882885853963445705823"),
        };
        byte[] ones = new byte[32];
        Arrays.fill(ones, (byte) 255);
        byte[][] privates = {new byte[32], ones, Model.digest(Model.NONE)};
        for (BigInteger open : publics) {
            Both d = new Both("agreement with " + open);
            for (byte[] key : privates) {
                d.feedAll(key);
                d.feedAll(Model.row(open));
                d.agree().isNothing();
                for (int k = 0; k < 32; k++) {
                    d.result(k);
                }
            }
        }
    }

    /** Agreements on 9 itself: it is so small that 9 + q, too, is under 2^255, but it is 9 that is due. */
    private static void agreementsOnNine() {
        BigInteger order = BigInteger.TWO.pow(252).add(new BigInteger("27742317777372353535851937790883648493"));
        int found = 0;
        for (int i = 0; i < 20; i++) {
            BigInteger k = Model.number(Model.digest(Model.bytes(i)));
            k = k.clearBit(0).clearBit(1).clearBit(2).clearBit(255).setBit(254);
            // A private key whose public key, taken k times, is 9 again.
            BigInteger back = k.modInverse(order);
            while (back.bitLength() < 255 || back.bitLength() == 255 && back.getLowestSetBit() < 3) {
                back = back.add(order);
            }
            if (back.bitLength() > 255) {
                continue;
            }
            found++;
            Both d = new Both("agreement on 9, the " + found + ".");
            d.feedAll(Model.row(k));
            d.feedAll(Model.publicKey(Model.row(back)));
            d.agree().isNothing();
            d.result(0).is(9);
            for (int b = 1; b < 32; b++) {
                d.result(b).is(0);
            }
        }
        Answer.due("whether an agreement on 9 was found", Boolean.toString(found > 0), "true");
    }

    /** Each private key is the agreement before, its public key the private key before: a thousand times. */
    private static void repeatedAgreements() {
        byte[] key = Model.row(BigInteger.valueOf(9));
        byte[] open = key;
        for (int i = 0; i < 1000; i++) {
            PatternGreeter desk = new PatternGreeter();
            for (byte[] row : new byte[][] {key, open}) {
                for (byte b : row) {
                    desk.feed(1, b);
                }
            }
            desk.agree();
            open = key;
            key = new byte[32];
            for (int k = 0; k < 32; k++) {
                key[k] = (byte) desk.result(k);
            }
        }
        byte[] want = row("684cf59ba83309552800ef566f2f4d3c1c3887c49360e3875f2eb94d99532c51");
        Answer.due("the thousandth agreement", Arrays.toString(key), Arrays.toString(want));
    }

    private static void wrongSizes() {
        Both d = new Both("agree with a wrong tape");
        d.agree().refusesArgument();
        d.feedAll(new byte[63]);
        d.agree().refusesArgument();
        d.feed(2, 0).is(65);
        d.agree().refusesArgument();
        d.wipe().is(65);
        d.result(0).is(0);
        d.feedAll(new byte[128]);
        d.agree().refusesArgument();
        d.wipe().is(128);
    }

    private static void results() {
        Both d = new Both("result");
        for (int k : new int[] {-1, 32, Integer.MIN_VALUE, Integer.MAX_VALUE}) {
            d.result(k).refusesElement();
        }
        d.result(31).is(0);
        d.hash(0);
        d.result(0).is(0xe3);
        d.result(31).is(0x55);
        d.clear();
        d.result(0).is(0xe3);
        d.setPattern("e / e ee");
        d.begin(1);
        d.write(0);
        d.result(31).is(0x55);
    }
}
