import java.io.ByteArrayOutputStream;
import java.math.BigInteger;
import java.security.GeneralSecurityException;
import java.security.MessageDigest;
import java.util.ArrayList;
import java.util.Arrays;
import java.util.List;
import java.util.NoSuchElementException;
import javax.crypto.AEADBadTagException;
import javax.crypto.Cipher;
import javax.crypto.spec.IvParameterSpec;
import javax.crypto.spec.SecretKeySpec;

/**
 * The document a second time, written for plainness over the Java library: what PatternGreeter answers
 * is held against it. Only hash 1 and the curve are its own, and the tests hold those against known answers.
 */
final class Model {
    static final BigInteger Q = BigInteger.TWO.pow(255).subtract(BigInteger.valueOf(19));
    static final byte[] NONE = new byte[0];

    byte[] tape = NONE;
    byte[] result = new byte[32];
    final byte[][] secrets = new byte[4][32];
    final Side[] sides = {new Side(0), new Side(1)};
    final boolean[][] known = new boolean[2][2];
    final List<List<Integer>> messages = new ArrayList<>();
    List<Integer> open = new ArrayList<>();
    boolean begun;
    int hash;

    static final class Side {
        final int me;
        final byte[][] keys = {new byte[32], new byte[32], NONE};
        final byte[][] theirs = new byte[2][];
        byte[] out = NONE;
        byte[] in = NONE;
        byte[] h;
        byte[] ck;
        byte[] k;
        byte[] openKey;
        long n;
        long openN;
        int done;
        int psks;
        int state;

        Side(int me) {
            this.me = me;
        }
    }

    // ---- the terms

    static byte[] join(byte[]... rows) {
        ByteArrayOutputStream all = new ByteArrayOutputStream();
        for (byte[] row : rows) {
            all.writeBytes(row);
        }
        return all.toByteArray();
    }

    static byte[] bytes(int... values) {
        byte[] row = new byte[values.length];
        for (int i = 0; i < row.length; i++) {
            row[i] = (byte) values[i];
        }
        return row;
    }

    /** 1, 8, 15, .. */
    static byte[] counting(int size) {
        byte[] row = new byte[size];
        for (int i = 0; i < size; i++) {
            row[i] = (byte) (7 * i + 1);
        }
        return row;
    }

    static byte[] hash(int which, byte[] row) {
        return which == 0 ? digest(row) : stir(row);
    }

    static byte[] digest(byte[] row) {
        try {
            return MessageDigest.getInstance("SHA-256").digest(row);
        } catch (GeneralSecurityException e) {
            throw new AssertionError(e);
        }
    }

    static final int[] I = {
        0x6A09E667, 0xBB67AE85, 0x3C6EF372, 0xA54FF53A, 0x510E527F, 0x9B05688C, 0x1F83D9AB, 0x5BE0CD19};
    static final String[] ROWS = {
        "0123456789abcdef", "ea489fd61c02b753", "b8c052fdae367194", "7931dcbe265a40f8", "905724afe1bc683d",
        "2c6a0b834d75fe19", "c51fed4a0763928b", "db7ec13950f4862a", "6fe9b308c2d714a5", "a2847615fb9e3cd0"};
    static final int[][] STIRS = {
        {0, 4, 8, 12}, {1, 5, 9, 13}, {2, 6, 10, 14}, {3, 7, 11, 15},
        {0, 5, 10, 15}, {1, 6, 11, 12}, {2, 7, 8, 13}, {3, 4, 9, 14}};

    static byte[] stir(byte[] row) {
        int parts = Math.max(1, (row.length + 63) / 64);
        byte[] full = Arrays.copyOf(row, 64 * parts);
        int[] v = I.clone();
        v[0] ^= 16842784;
        for (int p = 0; p < parts; p++) {
            int[] m = new int[16];
            for (int i = 0; i < 64; i++) {
                m[i / 4] |= (full[64 * p + i] & 255) << 8 * (i % 4);
            }
            int[] x = Arrays.copyOf(v, 16);
            System.arraycopy(I, 0, x, 8, 8);
            x[12] ^= Math.min(row.length, 64 * (p + 1));
            x[14] ^= p == parts - 1 ? -1 : 0;
            for (String s : ROWS) {
                for (int i = 0; i < 8; i++) {
                    int[] w = STIRS[i];
                    half(x, w, m[Character.digit(s.charAt(2 * i), 16)], 16, 12);
                    half(x, w, m[Character.digit(s.charAt(2 * i + 1), 16)], 8, 7);
                }
            }
            for (int i = 0; i < 8; i++) {
                v[i] ^= x[i] ^ x[i + 8];
            }
        }
        byte[] out = new byte[32];
        for (int i = 0; i < 32; i++) {
            out[i] = (byte) (v[i / 4] >>> 8 * (i % 4));
        }
        return out;
    }

    private static void half(int[] x, int[] w, int p, int first, int second) {
        x[w[0]] += x[w[1]] + p;
        x[w[3]] = Integer.rotateRight(x[w[3]] ^ x[w[0]], first);
        x[w[2]] += x[w[3]];
        x[w[1]] = Integer.rotateRight(x[w[1]] ^ x[w[2]], second);
    }

    static byte[] mac(int which, byte[] key, byte[] row) {
        byte[] inner = Arrays.copyOf(key, 64);
        byte[] outer = Arrays.copyOf(key, 64);
        for (int i = 0; i < 64; i++) {
            inner[i] ^= 54;
            outer[i] ^= 92;
        }
        return hash(which, join(outer, hash(which, join(inner, row))));
    }

    static byte[][] spread(int which, byte[] ck, byte[] x) {
        byte[] t = mac(which, ck, x);
        byte[] o1 = mac(which, t, bytes(1));
        byte[] o2 = mac(which, t, join(o1, bytes(2)));
        byte[] o3 = mac(which, t, join(o2, bytes(3)));
        return new byte[][] {o1, o2, o3};
    }

    /** The Java library's own cipher; null when it does not open. */
    static byte[] cipher(boolean seals, byte[] key, long number, byte[] head, byte[] text) {
        byte[] nonce = new byte[12];
        for (int i = 0; i < 8; i++) {
            nonce[4 + i] = (byte) (number >>> 8 * i);
        }
        if (!seals && text.length < 16) {
            return null;
        }
        try {
            Cipher c = Cipher.getInstance("ChaCha20-Poly1305");
            c.init(seals ? Cipher.ENCRYPT_MODE : Cipher.DECRYPT_MODE,
                new SecretKeySpec(key, "ChaCha20"), new IvParameterSpec(nonce));
            c.updateAAD(head);
            return c.doFinal(text);
        } catch (AEADBadTagException e) {
            return null;
        } catch (GeneralSecurityException e) {
            throw new AssertionError(e);
        }
    }

    static BigInteger number(byte[] row) {
        byte[] high = new byte[row.length];
        for (int i = 0; i < row.length; i++) {
            high[row.length - 1 - i] = row[i];
        }
        return new BigInteger(1, high);
    }

    static byte[] row(BigInteger number) {
        byte[] row = new byte[32];
        for (int i = 0; i < 32; i++) {
            row[i] = number.shiftRight(8 * i).byteValue();
        }
        return row;
    }

    static byte[] agree(byte[] privateKey, byte[] publicKey) {
        BigInteger k = number(privateKey).clearBit(0).clearBit(1).clearBit(2).clearBit(255).setBit(254);
        BigInteger u = number(publicKey).clearBit(255).mod(Q);
        BigInteger x2 = BigInteger.ONE;
        BigInteger z2 = BigInteger.ZERO;
        BigInteger x3 = u;
        BigInteger z3 = BigInteger.ONE;
        for (int i = 254; i >= 0; i--) {
            boolean set = k.testBit(i);
            BigInteger px = set ? x3 : x2;
            BigInteger pz = set ? z3 : z2;
            BigInteger qx = set ? x2 : x3;
            BigInteger qz = set ? z2 : z3;
            BigInteger aa = px.add(pz).pow(2).mod(Q);
            BigInteger bb = px.subtract(pz).pow(2).mod(Q);
            BigInteger e = aa.subtract(bb);
            BigInteger da = qx.subtract(qz).multiply(px.add(pz));
            BigInteger cb = qx.add(qz).multiply(px.subtract(pz));
            qx = da.add(cb).pow(2).mod(Q);
            qz = u.multiply(da.subtract(cb).pow(2)).mod(Q);
            px = aa.multiply(bb).mod(Q);
            pz = e.multiply(aa.add(e.multiply(BigInteger.valueOf(121665)))).mod(Q);
            x2 = set ? qx : px;
            z2 = set ? qz : pz;
            x3 = set ? px : qx;
            z3 = set ? pz : qz;
        }
        return row(x2.multiply(z2.modPow(Q.subtract(BigInteger.TWO), Q)).mod(Q));
    }

    static byte[] publicKey(byte[] privateKey) {
        return agree(privateKey, row(BigInteger.valueOf(9)));
    }

    // ---- the calls

    private static void refuse(boolean when) {
        if (when) {
            throw new IllegalArgumentException();
        }
    }

    private static void refuseState(boolean when) {
        if (when) {
            throw new IllegalStateException();
        }
    }

    private static void refuseElement(boolean when) {
        if (when) {
            throw new NoSuchElementException();
        }
    }

    private byte[] useTape() {
        byte[] row = tape;
        tape = NONE;
        return row;
    }

    int feed(int n, long v) {
        refuse(n < 1 || n > 8);
        refuseState(tape.length + n > 1024);
        for (int i = 0; i < n; i++) {
            tape = join(tape, bytes((int) (v >> 8 * i)));
        }
        return tape.length;
    }

    int wipe() {
        return useTape().length;
    }

    void clear() {
        messages.clear();
        open = new ArrayList<>();
        begun = false;
        for (int p = 0; p < 2; p++) {
            Arrays.fill(known[p], false);
            Side fresh = new Side(p);
            System.arraycopy(sides[p].keys, 0, fresh.keys, 0, 3);
            sides[p] = fresh;
        }
    }

    void known(int party, int which) {
        refuse(party < 0 || party > 1 || which < 0 || which > 1);
        refuseState(begun);
        known[party][which] = true;
    }

    private static long psks(List<List<Integer>> messages) {
        return messages.stream().flatMap(List::stream).filter(t -> t == 6).count();
    }

    int say(int token) {
        refuse(token < 0 || token > 6);
        refuseState(begun || messages.size() == 8 || open.size() == 8);
        refuseState(token == 6 && psks(messages) + psks(List.of(open)) == 4);
        open.add(token);
        return open.size();
    }

    int next() {
        refuseState(begun || open.isEmpty());
        messages.add(open);
        open = new ArrayList<>();
        return messages.size();
    }

    /** Names as in the document: party 0's letter first. */
    private static final String[] NAMES = {"e", "s", "ee", "es", "se", "ss", "psk"};

    int rule() {
        List<String> has = new ArrayList<>();
        List<String> sent = new ArrayList<>();
        List<String> done = new ArrayList<>();
        for (int p = 0; p < 2; p++) {
            for (int w = 0; w < 2; w++) {
                if (known[p][w]) {
                    has.add(NAMES[w] + p);
                }
            }
        }
        boolean pskPattern = psks(messages) > 0;
        for (int m = 0; m < messages.size(); m++) {
            int sender = m % 2;
            for (int token : messages.get(m)) {
                String name = NAMES[token];
                boolean keyed = !done.isEmpty() || pskPattern && (sent.contains("e0") || sent.contains("e1"));
                if (token < 2) {
                    if (has.contains(name + sender)) {
                        return 1;
                    }
                    if (token == 1 && keyed && sealing(sender, sent, done) != 0) {
                        return sealing(sender, sent, done);
                    }
                    has.add(name + sender);
                    sent.add(name + sender);
                } else if (token == 6) {
                    done.add(name);
                } else {
                    if (!has.contains(name.charAt(0) + "0") || !has.contains(name.charAt(1) + "1")) {
                        return 2;
                    }
                    if (done.contains(name)) {
                        return 3;
                    }
                    done.add(name);
                }
            }
            boolean keyed = !done.isEmpty() || pskPattern && (sent.contains("e0") || sent.contains("e1"));
            if (keyed && sealing(sender, sent, done) != 0) {
                return sealing(sender, sent, done);
            }
        }
        return messages.isEmpty() ? -1 : 0;
    }

    private static int sealing(int sender, List<String> sent, List<String> done) {
        boolean four = sender == 0
            ? done.contains("se") && !done.contains("ee") || done.contains("ss") && !done.contains("es")
            : done.contains("es") && !done.contains("ee") || done.contains("ss") && !done.contains("se");
        if (four) {
            return 4;
        }
        return done.contains("psk") && !sent.contains("e" + sender) ? 5 : 0;
    }

    void key(int party, int which) {
        refuse(party < 0 || party > 1 || which < 0 || which > 2);
        refuse(which == 2 ? tape.length > 64 : tape.length != 32);
        refuseState(begun);
        sides[party].keys[which] = useTape();
    }

    void secret(int k) {
        refuse(k < 0 || k > 3 || tape.length != 32);
        refuseState(begun);
        secrets[k] = useTape();
    }

    void begin(int hash) {
        refuse(hash < 0 || hash > 1);
        refuseState(begun || rule() != 0);
        this.hash = hash;
        begun = true;
        byte[] name = bytes(hash, messages.size());
        for (int p = 0; p < 2; p++) {
            name = join(name, bytes((known[p][0] ? 1 : 0) + (known[p][1] ? 2 : 0)));
        }
        for (List<Integer> message : messages) {
            for (int token : message) {
                name = join(name, bytes(token));
            }
            name = join(name, bytes(7));
        }
        for (Side side : sides) {
            side.out = NONE;
            side.in = NONE;
            side.h = hash(hash, name);
            side.ck = side.h;
            mixHash(side, side.keys[2]);
            for (int p = 0; p < 2; p++) {
                for (int w = 0; w < 2; w++) {
                    if (known[p][w]) {
                        byte[] open = publicKey(sides[p].keys[w]);
                        mixHash(side, open);
                        if (p != side.me) {
                            side.theirs[w] = open;
                        }
                    }
                }
            }
            side.state = side.me == 0 ? 1 : 2;
        }
    }

    private void mixHash(Side side, byte[] row) {
        side.h = hash(hash, join(side.h, row));
    }

    private void mixKey(Side side, byte[] row) {
        byte[][] o = spread(hash, side.ck, row);
        side.ck = o[0];
        side.k = o[1];
        side.n = 0;
    }

    private void mixPsk(Side side) {
        byte[][] o = spread(hash, side.ck, secrets[side.psks++]);
        side.ck = o[0];
        mixHash(side, o[1]);
        side.k = o[2];
        side.n = 0;
    }

    private byte[] cover(Side side, byte[] text) {
        byte[] covered = side.k == null ? text : cipher(true, side.k, side.n++, side.h, text);
        mixHash(side, covered);
        return covered;
    }

    private byte[] uncover(Side side, byte[] covered) {
        byte[] text = side.k == null ? covered : cipher(false, side.k, side.n, side.h, covered);
        if (text != null) {
            side.n += side.k == null ? 0 : 1;
            mixHash(side, covered);
        }
        return text;
    }

    private void agreeOn(Side side, int token) {
        String name = NAMES[token];
        int own = name.charAt(side.me) == 'e' ? 0 : 1;
        int theirs = name.charAt(1 - side.me) == 'e' ? 0 : 1;
        mixKey(side, agree(side.keys[own], side.theirs[theirs]));
    }

    private void behind(Side side) {
        side.done++;
        if (side.done < messages.size()) {
            side.state = side.done % 2 == side.me ? 1 : 2;
            return;
        }
        byte[][] o = spread(hash, side.ck, NONE);
        side.k = o[side.me];
        side.openKey = o[1 - side.me];
        side.n = 0;
        side.openN = 0;
        side.ck = null;
        side.state = 3;
    }

    private boolean silent(int party) {
        return party == 1 && messages.size() == 1;
    }

    int write(int party) {
        refuse(party < 0 || party > 1);
        Side side = sides[party];
        refuseState(side.state != 1 && side.state != 3);
        if (side.state == 3) {
            refuseState(silent(party) || side.n == -1 || tape.length + 16 > 1024);
            side.out = cipher(true, side.k, side.n++, NONE, useTape());
            return side.out.length;
        }
        Side trial = copy(side);
        byte[] out = NONE;
        for (int token : messages.get(side.done)) {
            if (token == 0) {
                byte[] open = publicKey(trial.keys[0]);
                out = join(out, open);
                mixHash(trial, open);
                if (psks(messages) > 0) {
                    mixKey(trial, open);
                }
            } else if (token == 1) {
                out = join(out, cover(trial, publicKey(trial.keys[1])));
            } else if (token == 6) {
                mixPsk(trial);
            } else {
                agreeOn(trial, token);
            }
        }
        out = join(out, cover(trial, tape));
        refuseState(out.length > 1024);
        useTape();
        behind(trial);
        trial.out = out;
        sides[party] = trial;
        return out.length;
    }

    private static Side copy(Side side) {
        Side c = new Side(side.me);
        System.arraycopy(side.keys, 0, c.keys, 0, 3);
        System.arraycopy(side.theirs, 0, c.theirs, 0, 2);
        c.out = side.out;
        c.in = side.in;
        c.h = side.h;
        c.ck = side.ck;
        c.k = side.k;
        c.openKey = side.openKey;
        c.n = side.n;
        c.openN = side.openN;
        c.done = side.done;
        c.psks = side.psks;
        c.state = side.state;
        return c;
    }

    private void refuseReading(int party) {
        refuse(party < 0 || party > 1);
        Side side = sides[party];
        refuseState(side.state != 2 && side.state != 3);
        refuseState(side.state == 3 && (silent(1 - party) || side.openN == -1));
    }

    int read(int party) {
        refuseReading(party);
        return take(sides[party], useTape());
    }

    int deliver(int party) {
        refuseReading(party);
        return take(sides[party], sides[1 - party].out);
    }

    private int take(Side side, byte[] message) {
        byte[] text = side.state == 3
            ? cipher(false, side.openKey, side.openN, NONE, message) : takeMessage(side, message);
        side.in = text == null ? NONE : text;
        if (side.state == 3) {
            side.openN += text == null ? 0 : 1;
        } else if (text == null) {
            side.state = 4;
            side.h = null;
            side.ck = null;
            side.k = null;
            side.n = 0;
            side.psks = 0;
        } else {
            behind(side);
        }
        return text == null ? -1 : text.length;
    }

    private byte[] takeMessage(Side side, byte[] message) {
        int from = 0;
        for (int token : messages.get(side.done)) {
            if (token < 2) {
                int size = token == 1 && side.k != null ? 48 : 32;
                if (message.length < from + size) {
                    return null;
                }
                byte[] piece = Arrays.copyOfRange(message, from, from + size);
                from += size;
                if (token == 0) {
                    side.theirs[0] = piece;
                    mixHash(side, piece);
                    if (psks(messages) > 0) {
                        mixKey(side, piece);
                    }
                } else {
                    side.theirs[1] = uncover(side, piece);
                    if (side.theirs[1] == null) {
                        return null;
                    }
                }
            } else if (token == 6) {
                mixPsk(side);
            } else {
                agreeOn(side, token);
            }
        }
        return uncover(side, Arrays.copyOfRange(message, from, message.length));
    }

    int alter(int party, int i, int mask) {
        refuse(party < 0 || party > 1);
        byte[] out = sides[party].out;
        refuseElement(i < 0 || i >= out.length);
        byte[] other = out.clone();
        other[i] ^= mask;
        sides[party].out = other;
        return other[i] & 255;
    }

    void number(int party, boolean sends, long v) {
        refuse(party < 0 || party > 1);
        Side side = sides[party];
        refuseState(side.state != 3);
        if (sends) {
            side.n = v;
        } else {
            side.openN = v;
        }
    }

    void rekey(int party, boolean sends) {
        refuse(party < 0 || party > 1);
        Side side = sides[party];
        refuseState(side.state != 3);
        byte[] old = sends ? side.k : side.openKey;
        byte[] fresh = Arrays.copyOf(cipher(true, old, -1, NONE, new byte[32]), 32);
        if (sends) {
            side.k = fresh;
        } else {
            side.openKey = fresh;
        }
    }

    void hash(int which) {
        refuse(which < 0 || which > 1);
        result = hash(which, useTape());
    }

    void agree() {
        refuse(tape.length != 64);
        byte[] row = useTape();
        result = agree(Arrays.copyOf(row, 32), Arrays.copyOfRange(row, 32, 64));
    }

    int result(int k) {
        refuseElement(k < 0 || k > 31);
        return result[k] & 255;
    }

    int at(int party, int what, int k) {
        refuse(party < 0 || party > 1 || what < 0 || what > 5);
        Side side = sides[party];
        byte[][] rows = {side.out, side.in, side.h, side.ck, side.k, side.state == 3 ? side.openKey : null};
        refuseElement(rows[what] == null || k < 0 || k >= rows[what].length);
        return rows[what][k] & 255;
    }

    long look(int party, int what) {
        refuse(party < 0 || party > 1 || what < 0 || what > 7);
        Side side = sides[party];
        long[] all = {side.state, side.out.length, side.in.length, side.done, side.k == null ? 0 : 1, side.n,
            side.openN, side.psks};
        return all[what];
    }
}
