import java.math.BigInteger;
import java.util.Arrays;

/** Promises 18 to 20: the hashes and the curve, against answers that were made elsewhere. */
public final class TermsTest {
    /** How many bytes, byte i being 7 * i and that number, modulo 256; hash 0; hash 1. */
    private static final String[][] HASHES = {
        {"3", "6ab0dba1f4f1dfbb37b4f9eeb092c09fca4900ad32bdcd147d8dde35d6c87c35",
            "ca943acca89a34cf4040cf8ea24147dd94ea62a49de8ef9a88af5272339927b3"},
        {"255", "a00e7f00e2acf6905080c3b78319b8a4f159b5974f853484e1486c157151299a",
            "dfece97126c25e39435f2c57642a24ae5091856db626588682095b70dab76917"},
        {"1000", "6b0df76627243d095b0c4400cb658b7e804dd03461cc03aee8fc8fe0bcada168",
            "802d01c1238627f67baee29885006cfaab1f07890532935a1ae9354d318df150"},
    };

    public static void main(String[] args) {
        hashes();
        hashesOfEverySize();
        agreements();
        repeatedAgreements();
        Answer.end();
    }

    private static byte[] pattern(int size) {
        byte[] row = new byte[size];
        for (int i = 0; i < size; i++) {
            row[i] = (byte) (7 * i + size);
        }
        return row;
    }

    private static void hashes() {
        for (String[] line : HASHES) {
            int size = Integer.parseInt(line[0]);
            for (int hash = 0; hash < 2; hash++) {
                Both d = new Both("hash " + hash + " of " + size + " bytes");
                d.feedAll(pattern(size));
                d.hash(hash).isNothing();
                d.wipe().is(0);
                d.resultIs(line[1 + hash]);
            }
        }
    }

    /** One object for each size, so that what a longer hash left behind is met by a shorter one. */
    private static void hashesOfEverySize() {
        for (int size = 0; size <= 200; size++) {
            Both d = new Both("hashes of " + size + " bytes behind longer ones");
            for (int hash = 0; hash < 2; hash++) {
                d.feedAll(pattern(size + 70));
                d.hash(hash);
                d.feedAll(pattern(size));
                d.hash(hash);
                for (int k = 0; k < 32; k++) {
                    d.result(k);
                }
            }
        }
    }

    private static byte[] row(String hex) {
        byte[] row = new byte[hex.length() / 2];
        for (int i = 0; i < row.length; i++) {
            row[i] = (byte) Integer.parseInt(hex.substring(2 * i, 2 * i + 2), 16);
        }
        return row;
    }

    private static void agreements() {
        String[][] lines = {
            {"a546e36bf0527c9d3b16154b82465edd62144c0ac1fc5a18506a2244ba449ac4",
                "e6db6867583030db3594c1a424b15f7c726624ec26b3353b10a903a6d0ab1c4c",
                "c3da55379de9c6908e94ea4df28d084f32eccf03491c71f754b4075577a28552"},
            {"4b66e9d4d1b4673c5ad22691957d6af5c11b6421e0ea01d42ca4169e7918ba0d",
                "e5210f12786811d3f4b7959d0538ae2c31dbe7106fc03c3efc4cd549c715a493",
                "95cbde9476e8907d7aade45cb4b873f88b595a68799fa152e6f8f7647aac7957"},
            {"0900000000000000000000000000000000000000000000000000000000000000",
                "0900000000000000000000000000000000000000000000000000000000000000",
                "422c8e7a6227d7bca1350b3e2bb7279f7897b87bb6854b783c60e80311ae3079"},
        };
        for (String[] line : lines) {
            Both d = new Both("agreement of " + line[0]);
            d.feedAll(row(line[0]));
            d.feedAll(row(line[1]));
            d.agree().isNothing();
            d.wipe().is(0);
            d.resultIs(line[2]);
        }
    }

    /** Each private key is the agreement before, its public key the private key before: a thousand times. */
    private static void repeatedAgreements() {
        byte[] key = Model.row(BigInteger.valueOf(9));
        byte[] open = key;
        for (int i = 0; i < 1000; i++) {
            PatternGreeter desk = new PatternGreeter();
            for (byte[] row : new byte[][] {key, open}) {
                for (byte b : row) {
                    desk.feed(1, b);
                }
            }
            desk.agree();
            open = key;
            key = new byte[32];
            for (int k = 0; k < 32; k++) {
                key[k] = (byte) desk.result(k);
            }
        }
        byte[] want = row("684cf59ba83309552800ef566f2f4d3c1c3887c49360e3875f2eb94d99532c51");
        Answer.due("the thousandth agreement", Arrays.toString(key), Arrays.toString(want));
    }

}
