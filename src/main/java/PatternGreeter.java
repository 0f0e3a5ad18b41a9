import java.util.NoSuchElementException;

/**
 * A desk at which two parties greet one another by any pattern of messages that keeps the rules, and
 * come to the same keys, with which they send on. All rows are made once, in the constructor, and
 * used again by every call.
 */
public final class PatternGreeter {
    private static final int KEY = 32;
    private static final int TAG = 16;
    private static final int MOST = 1024;
    private static final int MOST_PRELUDE = 64;
    private static final int MOST_MESSAGES = 8;
    private static final int MOST_TOKENS = 8;
    private static final int SECRETS = 4;

    private static final int E = 0;
    private static final int S = 1;
    private static final int EE = 2;
    private static final int ES = 3;
    private static final int SE = 4;
    private static final int SS = 5;
    private static final int PSK = 6;
    private static final int END_OF_MESSAGE = 7;

    private static final int NOT_BEGUN = 0;
    private static final int WRITES = 1;
    private static final int READS = 2;
    private static final int SPLIT = 3;
    private static final int FAILED = 4;

    /** The number 2^64 - 1, which rekeying has to itself. */
    private static final long LAST_NUMBER = -1L;

    private final Bytes tape;
    private final byte[] result;
    private final byte[][] secrets;
    private final Pattern pattern;
    private final Hasher[] hashers;
    private final Curve curve;
    private final Party[] parties;

    public PatternGreeter() {
        tape = new Bytes();
        result = new byte[KEY];
        secrets = new byte[SECRETS][KEY];
        pattern = new Pattern();
        hashers = new Hasher[] {new DigestHasher(), new StirHasher()};
        curve = new Curve();
        Cipher cipher = new Cipher();
        parties = new Party[] {
            new Party(0, pattern, curve, secrets, new Chain(cipher, hashers[0])),
            new Party(1, pattern, curve, secrets, new Chain(cipher, hashers[0])),
        };
    }

    public int feed(int n, long v) throws IllegalArgumentException, IllegalStateException {
        if (n < 1 || n > 8) {
            throw new IllegalArgumentException("n is not 1 .. 8");
        }
        if (tape.size + n > MOST) {
            throw new IllegalStateException("the tape would have more than 1024 bytes");
        }
        for (int i = 0; i < n; i++) {
            tape.bytes[tape.size + i] = (byte) (v >>> 8 * i);
        }
        tape.size += n;
        return tape.size;
    }

    public int wipe() {
        int had = tape.size;
        tape.size = 0;
        return had;
    }

    public void clear() {
        pattern.makeEmpty();
        parties[0].forget();
        parties[1].forget();
    }

    public void known(int party, int which) throws IllegalArgumentException, IllegalStateException {
        partyOf(party);
        if (which != E && which != S) {
            throw new IllegalArgumentException("there is no such key");
        }
        refuseWhenBegun();
        pattern.knownKeys[party] |= 1 << which;
    }

    public int say(int token) throws IllegalArgumentException, IllegalStateException {
        if (token < E || token > PSK) {
            throw new IllegalArgumentException("the token is not 0 .. 6");
        }
        refuseWhenBegun();
        if (!pattern.hasRoomFor(token)) {
            throw new IllegalStateException("the pattern has no room for the token");
        }
        return pattern.addToken(token);
    }

    public int next() throws IllegalStateException {
        refuseWhenBegun();
        if (pattern.open == 0) {
            throw new IllegalStateException("the message has no tokens");
        }
        return pattern.closeMessage();
    }

    public int rule() {
        return pattern.brokenRule();
    }

    public void key(int party, int which) throws IllegalArgumentException, IllegalStateException {
        Party owner = partyOf(party);
        if (which < 0 || which > 2) {
            throw new IllegalArgumentException("there is no such key");
        }
        if (which == 2 ? tape.size > MOST_PRELUDE : tape.size != KEY) {
            throw new IllegalArgumentException("the tape has not as many bytes as it takes");
        }
        refuseWhenBegun();
        if (which == 2) {
            owner.prelude.fillFrom(tape.bytes, tape.size);
        } else {
            owner.setPrivate(which, tape.bytes);
        }
        tape.size = 0;
    }

    public void secret(int k) throws IllegalArgumentException, IllegalStateException {
        if (k < 0 || k >= SECRETS) {
            throw new IllegalArgumentException("k is not 0 .. 3");
        }
        if (tape.size != KEY) {
            throw new IllegalArgumentException("the tape has not 32 bytes");
        }
        refuseWhenBegun();
        System.arraycopy(tape.bytes, 0, secrets[k], 0, KEY);
        tape.size = 0;
    }

    public void begin(int hash) throws IllegalArgumentException, IllegalStateException {
        Hasher hasher = hasherOf(hash);
        refuseWhenBegun();
        if (pattern.brokenRule() != 0) {
            throw new IllegalStateException("the pattern breaks a rule or has no message");
        }
        parties[0].start(hasher, hash, parties[1]);
        parties[1].start(hasher, hash, parties[0]);
    }

    public int write(int party) throws IllegalArgumentException, IllegalStateException {
        Party writer = partyOf(party);
        if (!writer.mayWrite()) {
            throw new IllegalStateException("it may not write now");
        }
        if (writer.sizeOfNext(tape.size) > MOST) {
            throw new IllegalStateException("the message would have more than 1024 bytes");
        }
        writer.compose(tape);
        tape.size = 0;
        return writer.out.size;
    }

    public int read(int party) throws IllegalArgumentException, IllegalStateException {
        Party reader = readerOf(party);
        int got = reader.receive(tape.bytes, tape.size);
        tape.size = 0;
        return got;
    }

    public int deliver(int party) throws IllegalArgumentException, IllegalStateException {
        Party reader = readerOf(party);
        Bytes message = parties[1 - reader.side].out;
        return reader.receive(message.bytes, message.size);
    }

    public int alter(int party, int i, int mask) throws IllegalArgumentException, NoSuchElementException {
        Bytes out = partyOf(party).out;
        if (i < 0 || i >= out.size) {
            throw new NoSuchElementException("there is no such byte");
        }
        out.bytes[i] = (byte) (out.bytes[i] ^ mask);
        return out.bytes[i] & 255;
    }

    public void number(int party, boolean sends, long v) throws IllegalArgumentException, IllegalStateException {
        Chain chain = splitOf(party).chain;
        if (sends) {
            chain.number = v;
        } else {
            chain.openNumber = v;
        }
    }

    public void rekey(int party, boolean sends) throws IllegalArgumentException, IllegalStateException {
        Chain chain = splitOf(party).chain;
        chain.turnKey(sends ? chain.key : chain.openKey);
    }

    public void hash(int hash) throws IllegalArgumentException {
        Hasher hasher = hasherOf(hash);
        hasher.put(tape.bytes, 0, tape.size);
        hasher.finish(result);
        tape.size = 0;
    }

    public void agree() throws IllegalArgumentException {
        if (tape.size != 2 * KEY) {
            throw new IllegalArgumentException("the tape has not 64 bytes");
        }
        curve.agreement(tape.bytes, tape.bytes, KEY, result);
        tape.size = 0;
    }

    public int result(int k) throws NoSuchElementException {
        if (k < 0 || k >= KEY) {
            throw new NoSuchElementException("k is not 0 .. 31");
        }
        return result[k] & 255;
    }

    public int at(int party, int what, int k) throws IllegalArgumentException, NoSuchElementException {
        Party owner = partyOf(party);
        if (what < 0 || what > 5) {
            throw new IllegalArgumentException("there is no such what");
        }
        if (k < 0 || k >= owner.bytesToSee(what)) {
            throw new NoSuchElementException("there is no such byte");
        }
        return owner.rowOf(what)[k] & 255;
    }

    public long look(int party, int what) throws IllegalArgumentException {
        Party owner = partyOf(party);
        if (what < 0 || what > 7) {
            throw new IllegalArgumentException("there is no such what");
        }
        return owner.figure(what);
    }

    private Party partyOf(int party) {
        if (party != 0 && party != 1) {
            throw new IllegalArgumentException("there is no such party");
        }
        return parties[party];
    }

    private Party splitOf(int party) {
        Party owner = partyOf(party);
        if (owner.state != SPLIT) {
            throw new IllegalStateException("it is not split");
        }
        return owner;
    }

    private Party readerOf(int party) {
        Party reader = partyOf(party);
        if (!reader.mayRead()) {
            throw new IllegalStateException("it may not read now");
        }
        return reader;
    }

    private Hasher hasherOf(int hash) {
        if (hash != 0 && hash != 1) {
            throw new IllegalArgumentException("there is no such hash");
        }
        return hashers[hash];
    }

    /** Both parties begin and forget together, so one of them tells for both. */
    private void refuseWhenBegun() {
        if (parties[0].state != NOT_BEGUN) {
            throw new IllegalStateException("it has begun");
        }
    }

    /** A row of up to 1024 bytes, and the reading and writing of words, lowest byte first. */
    private static final class Bytes {
        final byte[] bytes = new byte[MOST];
        int size;

        void fillFrom(byte[] row, int count) {
            System.arraycopy(row, 0, bytes, 0, count);
            size = count;
        }

        static int wordAt(byte[] row, int from) {
            return row[from] & 255 | (row[from + 1] & 255) << 8
                | (row[from + 2] & 255) << 16 | (row[from + 3] & 255) << 24;
        }

        static void setWord(byte[] row, int from, int word) {
            row[from] = (byte) word;
            row[from + 1] = (byte) (word >>> 8);
            row[from + 2] = (byte) (word >>> 16);
            row[from + 3] = (byte) (word >>> 24);
        }
    }

    /** The keys known beforehand, the messages, and the message that is put together behind them. */
    private static final class Pattern {
        /** For each party 1 if its e is known beforehand, and 2 if its s is, added. */
        final int[] knownKeys = new int[2];
        final int[] tokens = new int[MOST_MESSAGES * MOST_TOKENS];
        final int[] counts = new int[MOST_MESSAGES];
        int messages;
        int psks;
        int open;
        int openPsks;

        void makeEmpty() {
            knownKeys[0] = 0;
            knownKeys[1] = 0;
            messages = 0;
            psks = 0;
            open = 0;
            openPsks = 0;
        }

        boolean hasRoomFor(int token) {
            if (messages >= MOST_MESSAGES || open >= MOST_TOKENS) {
                return false;
            }
            return token != PSK || psks + openPsks < SECRETS;
        }

        int addToken(int token) {
            tokens[messages * MOST_TOKENS + open] = token;
            open++;
            if (token == PSK) {
                openPsks++;
            }
            return open;
        }

        int closeMessage() {
            counts[messages] = open;
            messages++;
            psks += openPsks;
            open = 0;
            openPsks = 0;
            return messages;
        }

        int tokenOf(int message, int i) {
            return tokens[message * MOST_TOKENS + i];
        }

        /** Party 1 stays silent for ever behind a pattern in which it has no message. */
        boolean letsSend(int party) {
            return party == 0 || messages > 1;
        }

        void putInto(Hasher hasher, int hash) {
            hasher.putByte(hash);
            hasher.putByte(messages);
            hasher.putByte(knownKeys[0]);
            hasher.putByte(knownKeys[1]);
            for (int m = 0; m < messages; m++) {
                for (int i = 0; i < counts[m]; i++) {
                    hasher.putByte(tokenOf(m, i));
                }
                hasher.putByte(END_OF_MESSAGE);
            }
        }

        /**
         * Keys are told as bits 2 * party + which, what was done as bits of the tokens. Whether there is a
         * key need not be known: without an agreement or psk the rules of sealing can't be broken.
         */
        int brokenRule() {
            int have = knownKeys[0] | knownKeys[1] << 2;
            int sent = 0;
            int done = 0;
            for (int m = 0; m < messages; m++) {
                int sender = m & 1;
                for (int i = 0; i < counts[m]; i++) {
                    int token = tokenOf(m, i);
                    int broken = token <= S
                        ? ruleOfSending(sender, token, have, sent, done)
                        : ruleOfAgreeing(token, have, done);
                    if (broken != 0) {
                        return broken;
                    }
                    if (token <= S) {
                        have |= 1 << 2 * sender + token;
                        sent |= 1 << 2 * sender + token;
                    } else {
                        done |= 1 << token;
                    }
                }
                int broken = ruleOfSealing(sender, sent, done);
                if (broken != 0) {
                    return broken;
                }
            }
            return messages == 0 ? -1 : 0;
        }

        private static int ruleOfSending(int sender, int token, int have, int sent, int done) {
            if (has(have, 2 * sender + token)) {
                return 1;
            }
            return token == S ? ruleOfSealing(sender, sent, done) : 0;
        }

        private static int ruleOfAgreeing(int token, int have, int done) {
            if (token == PSK) {
                return 0;
            }
            int needs = 1 << keyOf(0, token) | 4 << keyOf(1, token);
            if ((have & needs) != needs) {
                return 2;
            }
            return has(done, token) ? 3 : 0;
        }

        private static int ruleOfSealing(int sender, int sent, int done) {
            int staticWithTheirE = sender == 0 ? SE : ES;
            int ephemeralWithTheirS = sender == 0 ? ES : SE;
            if (has(done, staticWithTheirE) && !has(done, EE)) {
                return 4;
            }
            if (has(done, SS) && !has(done, ephemeralWithTheirS)) {
                return 4;
            }
            return has(done, PSK) && !has(sent, 2 * sender + E) ? 5 : 0;
        }

        private static boolean has(int bits, int bit) {
            return (bits >>> bit & 1) != 0;
        }

        /** Which key of a party an agreement takes: the first letter is party 0's, the second party 1's. */
        static int keyOf(int party, int agreement) {
            int letters = agreement - EE;
            return party == 0 ? letters >> 1 & 1 : letters & 1;
        }
    }

    /** Bytes are put in one by one or in rows; finish gives their hash and starts anew. */
    private abstract static class Hasher {
        /** The first words of both hashes. */
        static final int[] FIRST = {
            0x6a09e667, 0xbb67ae85, 0x3c6ef372, 0xa54ff53a, 0x510e527f, 0x9b05688c, 0x1f83d9ab, 0x5be0cd19,
        };
        static final int PART = 64;
        static final int INNER = 54;
        static final int OUTER = 92;
        /** h and a message, and what hash 0 puts behind them, in whole parts. */
        static final int ROOM = 1280;

        final byte[] input = new byte[ROOM];
        int size;
        final int[] state = new int[8];
        final byte[] inner = new byte[KEY];
        final byte[] middle = new byte[KEY];
        final byte[] first = new byte[KEY];
        final byte[] second = new byte[KEY];
        final byte[] third = new byte[KEY];

        abstract void finish(byte[] hash);

        final void putByte(int b) {
            if (size < ROOM) {
                input[size] = (byte) b;
                size++;
            }
        }

        final void put(byte[] row, int from, int count) {
            if (count <= ROOM - size) {
                System.arraycopy(row, from, input, size, count);
                size += count;
            }
        }

        /** The 0s behind the bytes, since input still has what an earlier hash left there. */
        final void padTo(int end) {
            for (int i = size; i < end && i < ROOM; i++) {
                input[i] = 0;
            }
        }

        /** Leaves its outputs in first, second and, only if three are asked for, third. */
        final void spread(byte[] chainKey, byte[] row, int from, int count, int outputs) {
            mac(chainKey, row, from, count, 0, middle);
            mac(middle, row, from, 0, 1, first);
            mac(middle, first, 0, KEY, 2, second);
            if (outputs > 2) {
                mac(middle, second, 0, KEY, 3, third);
            }
        }

        /** A last byte of 0 is none: the outputs of a spread are numbered from 1 on. */
        private void mac(byte[] macKey, byte[] row, int from, int count, int last, byte[] out) {
            putKey(macKey, INNER);
            put(row, from, count);
            if (last != 0) {
                putByte(last);
            }
            finish(inner);
            putKey(macKey, OUTER);
            put(inner, 0, KEY);
            finish(out);
        }

        private void putKey(byte[] macKey, int mask) {
            for (int i = 0; i < PART; i++) {
                putByte(i < KEY ? macKey[i] ^ mask : mask);
            }
        }
    }

    /** Hash 0. */
    private static final class DigestHasher extends Hasher {
        private static final int[] K = {
            0x428a2f98, 0x71374491, 0xb5c0fbcf, 0xe9b5dba5, 0x3956c25b, 0x59f111f1, 0x923f82a4, 0xab1c5ed5,
            0xd807aa98, 0x12835b01, 0x243185be, 0x550c7dc3, 0x72be5d74, 0x80deb1fe, 0x9bdc06a7, 0xc19bf174,
            0xe49b69c1, 0xefbe4786, 0x0fc19dc6, 0x240ca1cc, 0x2de92c6f, 0x4a7484aa, 0x5cb0a9dc, 0x76f988da,
            0x983e5152, 0xa831c66d, 0xb00327c8, 0xbf597fc7, 0xc6e00bf3, 0xd5a79147, 0x06ca6351, 0x14292967,
            0x27b70a85, 0x2e1b2138, 0x4d2c6dfc, 0x53380d13, 0x650a7354, 0x766a0abb, 0x81c2c92e, 0x92722c85,
            0xa2bfe8a1, 0xa81a664b, 0xc24b8b70, 0xc76c51a3, 0xd192e819, 0xd6990624, 0xf40e3585, 0x106aa070,
            0x19a4c116, 0x1e376c08, 0x2748774c, 0x34b0bcb5, 0x391c0cb3, 0x4ed8aa4a, 0x5b9cca4f, 0x682e6ff3,
            0x748f82ee, 0x78a5636f, 0x84c87814, 0x8cc70208, 0x90befffa, 0xa4506ceb, 0xbef9a3f7, 0xc67178f2,
        };

        private final int[] w = new int[64];

        void finish(byte[] hash) {
            int bits = 8 * size;
            int end = (size + 8) / PART * PART + PART;
            putByte(128);
            padTo(end);
            setHighWord(input, end - 4, bits);
            System.arraycopy(FIRST, 0, state, 0, 8);
            for (int from = 0; from < end; from += PART) {
                spreadWords(from);
                takePart();
            }
            for (int i = 0; i < 8; i++) {
                setHighWord(hash, 4 * i, state[i]);
            }
            size = 0;
        }

        private static void setHighWord(byte[] row, int from, int word) {
            row[from] = (byte) (word >>> 24);
            row[from + 1] = (byte) (word >>> 16);
            row[from + 2] = (byte) (word >>> 8);
            row[from + 3] = (byte) word;
        }

        private void spreadWords(int from) {
            for (int t = 0; t < 16; t++) {
                int i = from + 4 * t;
                w[t] = (input[i] & 255) << 24 | (input[i + 1] & 255) << 16
                    | (input[i + 2] & 255) << 8 | input[i + 3] & 255;
            }
            for (int t = 16; t < 64; t++) {
                int x = w[t - 15];
                int y = w[t - 2];
                int s = (x >>> 7 | x << 25) ^ (x >>> 18 | x << 14) ^ x >>> 3;
                int r = (y >>> 17 | y << 15) ^ (y >>> 19 | y << 13) ^ y >>> 10;
                w[t] = w[t - 16] + s + w[t - 7] + r;
            }
        }

        private void takePart() {
            int a = state[0];
            int b = state[1];
            int c = state[2];
            int d = state[3];
            int e = state[4];
            int f = state[5];
            int g = state[6];
            int h = state[7];
            for (int t = 0; t < 64; t++) {
                int p = h + ((e >>> 6 | e << 26) ^ (e >>> 11 | e << 21) ^ (e >>> 25 | e << 7))
                    + (e & f ^ ~e & g) + K[t] + w[t];
                int q = ((a >>> 2 | a << 30) ^ (a >>> 13 | a << 19) ^ (a >>> 22 | a << 10))
                    + (a & b ^ a & c ^ b & c);
                h = g;
                g = f;
                f = e;
                e = d + p;
                d = c;
                c = b;
                b = a;
                a = p + q;
            }
            state[0] += a;
            state[1] += b;
            state[2] += c;
            state[3] += d;
            state[4] += e;
            state[5] += f;
            state[6] += g;
            state[7] += h;
        }
    }

    /** Hash 1. */
    private static final class StirHasher extends Hasher {
        private static final int FORM = 16842784;
        /** S0 .. S15 of each time, the first in the highest digit. */
        private static final long[] ROWS = {
            0x0123456789abcdefL, 0xea489fd61c02b753L, 0xb8c052fdae367194L, 0x7931dcbe265a40f8L,
            0x905724afe1bc683dL, 0x2c6a0b834d75fe19L, 0xc51fed4a0763928bL, 0xdb7ec13950f4862aL,
            0x6fe9b308c2d714a5L, 0xa2847615fb9e3cd0L,
        };

        private final int[] m = new int[16];
        private final int[] x = new int[16];

        void finish(byte[] hash) {
            int end = size == 0 ? PART : (size + PART - 1) / PART * PART;
            padTo(end);
            System.arraycopy(FIRST, 0, state, 0, 8);
            state[0] ^= FORM;
            for (int from = 0; from < end; from += PART) {
                boolean last = from + PART == end;
                startPart(from, last ? size : from + PART, last);
                for (int time = 0; time < ROWS.length; time++) {
                    stirAll(ROWS[time]);
                }
                endPart();
            }
            for (int i = 0; i < 8; i++) {
                Bytes.setWord(hash, 4 * i, state[i]);
            }
            size = 0;
        }

        private void startPart(int from, int n, boolean last) {
            for (int i = 0; i < 16; i++) {
                int j = from + 4 * i;
                m[i] = input[j] & 255 | (input[j + 1] & 255) << 8
                    | (input[j + 2] & 255) << 16 | (input[j + 3] & 255) << 24;
            }
            for (int i = 0; i < 8; i++) {
                x[i] = state[i];
                x[i + 8] = FIRST[i];
            }
            x[12] ^= n;
            x[14] ^= last ? -1 : 0;
        }

        private void endPart() {
            for (int i = 0; i < 8; i++) {
                state[i] ^= x[i] ^ x[i + 8];
            }
        }

        /** The first four stirs go down the columns of x as four rows of four, the others aslant. */
        private void stirAll(long row) {
            for (int i = 0; i < 8; i++) {
                int slant = i >> 2;
                int a = i & 3;
                int b = 4 + (a + slant & 3);
                int c = 8 + (a + 2 * slant & 3);
                int d = 12 + (a + 3 * slant & 3);
                int p = m[(int) (row >>> 60 - 8 * i) & 15];
                int q = m[(int) (row >>> 56 - 8 * i) & 15];
                x[a] += x[b] + p;
                int t = x[d] ^ x[a];
                x[d] = t >>> 16 | t << 16;
                x[c] += x[d];
                t = x[b] ^ x[c];
                x[b] = t >>> 12 | t << 20;
                x[a] += x[b] + q;
                t = x[d] ^ x[a];
                x[d] = t >>> 8 | t << 24;
                x[c] += x[d];
                t = x[b] ^ x[c];
                x[b] = t >>> 7 | t << 25;
            }
        }
    }

    /** Seals and opens under the key, number and head that were last prepared. */
    private static final class Cipher {
        private static final int PART = 64;

        private final int[] first = new int[16];
        private final int[] x = new int[16];
        final byte[] block = new byte[PART];
        private final Tally tally = new Tally();

        /** Of the head h the first bytes are taken: all or, once split, none. */
        void prepare(byte[] key, long number, byte[] head, int headSize) {
            prepareBlocks(key, number);
            makeBlock(0);
            tally.start(block, headSize);
            tally.take(head, 0, headSize);
        }

        void prepareBlocks(byte[] key, long number) {
            first[0] = 1634760805;
            first[1] = 857760878;
            first[2] = 2036477234;
            first[3] = 1797285236;
            for (int i = 0; i < 8; i++) {
                first[4 + i] = Bytes.wordAt(key, 4 * i);
            }
            first[13] = 0;
            first[14] = (int) number;
            first[15] = (int) (number >>> 32);
        }

        void seal(byte[] text, int count, byte[] sealed, int to) {
            cross(text, 0, count, sealed, to);
            tally.take(sealed, to, count);
            tally.finish(count);
            System.arraycopy(tally.tag, 0, sealed, to + count, TAG);
        }

        /** Whether it opens; the text is not touched before that is known. */
        boolean open(byte[] sealed, int from, int count, byte[] text) {
            int size = count - TAG;
            if (size < 0) {
                return false;
            }
            tally.take(sealed, from, size);
            tally.finish(size);
            int differing = 0;
            for (int i = 0; i < TAG; i++) {
                differing |= tally.tag[i] ^ sealed[from + size + i];
            }
            if (differing != 0) {
                return false;
            }
            cross(sealed, from, size, text, 0);
            return true;
        }

        private void cross(byte[] source, int from, int count, byte[] target, int to) {
            for (int i = 0; i < count; i++) {
                if (i % PART == 0) {
                    makeBlock(1 + i / PART);
                }
                target[to + i] = (byte) (source[from + i] ^ block[i % PART]);
            }
        }

        void makeBlock(int counter) {
            first[12] = counter;
            System.arraycopy(first, 0, x, 0, 16);
            for (int time = 0; time < 10; time++) {
                mixAll();
            }
            for (int i = 0; i < 16; i++) {
                Bytes.setWord(block, 4 * i, x[i] + first[i]);
            }
        }

        /** The first four go down the columns of x as four rows of four, the others aslant. */
        private void mixAll() {
            for (int i = 0; i < 8; i++) {
                int slant = i >> 2;
                int a = i & 3;
                int b = 4 + (a + slant & 3);
                int c = 8 + (a + 2 * slant & 3);
                int d = 12 + (a + 3 * slant & 3);
                x[a] += x[b];
                int t = x[d] ^ x[a];
                x[d] = t << 16 | t >>> 16;
                x[c] += x[d];
                t = x[b] ^ x[c];
                x[b] = t << 12 | t >>> 20;
                x[a] += x[b];
                t = x[d] ^ x[a];
                x[d] = t << 8 | t >>> 24;
                x[c] += x[d];
                t = x[b] ^ x[c];
                x[b] = t << 7 | t >>> 25;
            }
        }
    }

    /**
     * The tally of a head, a text and their sizes, numbers being held as five digits of 26 bits. Since
     * head and text are filled up with 0s, it only ever meets whole parts of 16 bytes.
     */
    private static final class Tally {
        private static final long DIGIT = (1L << 26) - 1;
        private static final long WORD = (1L << 32) - 1;

        final byte[] tag = new byte[TAG];
        private final byte[] part = new byte[TAG];
        private final long[] r = new long[5];
        private final long[] a = new long[5];
        private final long[] s = new long[4];
        private int headSize;

        void start(byte[] key, int sizeOfHead) {
            long w0 = Bytes.wordAt(key, 0) & 0x0fffffffL;
            long w1 = Bytes.wordAt(key, 4) & 0x0ffffffcL;
            long w2 = Bytes.wordAt(key, 8) & 0x0ffffffcL;
            long w3 = Bytes.wordAt(key, 12) & 0x0ffffffcL;
            for (int i = 0; i < 5; i++) {
                r[i] = digit(i, w0, w1, w2, w3);
                a[i] = 0;
            }
            for (int i = 0; i < 4; i++) {
                s[i] = Bytes.wordAt(key, 16 + 4 * i) & WORD;
            }
            headSize = sizeOfHead;
        }

        private static long digit(int i, long w0, long w1, long w2, long w3) {
            switch (i) {
                case 0: return w0 & DIGIT;
                case 1: return (w0 >>> 26 | w1 << 6) & DIGIT;
                case 2: return (w1 >>> 20 | w2 << 12) & DIGIT;
                case 3: return (w2 >>> 14 | w3 << 18) & DIGIT;
                default: return w3 >>> 8;
            }
        }

        void take(byte[] row, int from, int count) {
            for (int i = 0; i < count; i += TAG) {
                for (int j = 0; j < TAG; j++) {
                    part[j] = i + j < count ? row[from + i + j] : 0;
                }
                takePart();
            }
        }

        private void takePart() {
            long w0 = Bytes.wordAt(part, 0) & WORD;
            long w1 = Bytes.wordAt(part, 4) & WORD;
            long w2 = Bytes.wordAt(part, 8) & WORD;
            long w3 = Bytes.wordAt(part, 12) & WORD;
            for (int i = 0; i < 5; i++) {
                a[i] += digit(i, w0, w1, w2, w3);
            }
            a[4] += 1L << 24;
            timesR();
        }

        /** 2^130 is 5 here, so what goes beyond the highest digit comes in again five times. */
        private void timesR() {
            long r0 = r[0];
            long r1 = r[1];
            long r2 = r[2];
            long r3 = r[3];
            long r4 = r[4];
            long a0 = a[0];
            long a1 = a[1];
            long a2 = a[2];
            long a3 = a[3];
            long a4 = a[4];
            a[0] = a0 * r0 + 5 * (a1 * r4 + a2 * r3 + a3 * r2 + a4 * r1);
            a[1] = a0 * r1 + a1 * r0 + 5 * (a2 * r4 + a3 * r3 + a4 * r2);
            a[2] = a0 * r2 + a1 * r1 + a2 * r0 + 5 * (a3 * r4 + a4 * r3);
            a[3] = a0 * r3 + a1 * r2 + a2 * r1 + a3 * r0 + 5 * (a4 * r4);
            a[4] = a0 * r4 + a1 * r3 + a2 * r2 + a3 * r1 + a4 * r0;
            carry();
        }

        private void carry() {
            for (int i = 0; i < 4; i++) {
                a[i + 1] += a[i] >>> 26;
                a[i] &= DIGIT;
            }
            a[0] += 5 * (a[4] >>> 26);
            a[4] &= DIGIT;
            a[1] += a[0] >>> 26;
            a[0] &= DIGIT;
        }

        void finish(int textSize) {
            Bytes.setWord(part, 0, headSize);
            Bytes.setWord(part, 4, 0);
            Bytes.setWord(part, 8, textSize);
            Bytes.setWord(part, 12, 0);
            takePart();
            carry();
            carry();
            reduce();
            long sum = 0;
            for (int i = 0; i < 4; i++) {
                sum = (sum >>> 32) + word(i) + s[i];
                Bytes.setWord(tag, 4 * i, (int) sum);
            }
        }

        /** With whole digits A is under 2^130, so at most one 2^130 - 5 is to be taken away. */
        private void reduce() {
            long over = 5;
            for (int i = 0; i < 5; i++) {
                over = a[i] + over >>> 26;
            }
            a[0] += 5 * over;
            for (int i = 0; i < 4; i++) {
                a[i + 1] += a[i] >>> 26;
                a[i] &= DIGIT;
            }
        }

        private long word(int i) {
            switch (i) {
                case 0: return (a[0] | a[1] << 26) & WORD;
                case 1: return (a[1] >>> 6 | a[2] << 20) & WORD;
                case 2: return (a[2] >>> 12 | a[3] << 14) & WORD;
                default: return (a[3] >>> 18 | a[4] << 8) & WORD;
            }
        }
    }

    /**
     * Agreements. Numbers modulo q = 2^255 - 19 are ten digits of 26 and 25 bits in turn, so that 2^255
     * ends a digit and what goes beyond it comes in again 19 times. Digits may be a little out of their
     * range, also below 0; products of sums and differences of two carried numbers stay within a long.
     */
    private static final class Curve {
        private static final int DIGITS = 10;

        /** With it a private key agrees on its public key. */
        final byte[] base = new byte[KEY];
        private final byte[] scalar = new byte[KEY];
        private final long[] u = new long[DIGITS];
        private final long[] x2 = new long[DIGITS];
        private final long[] z2 = new long[DIGITS];
        private final long[] x3 = new long[DIGITS];
        private final long[] z3 = new long[DIGITS];
        private final long[] a = new long[DIGITS];
        private final long[] b = new long[DIGITS];
        private final long[] c = new long[DIGITS];
        private final long[] d = new long[DIGITS];
        private final long[] wide = new long[2 * DIGITS];
        private final long[] sums = new long[DIGITS];

        Curve() {
            base[0] = 9;
        }

        void agreement(byte[] privateKey, byte[] publicKey, int from, byte[] into) {
            System.arraycopy(privateKey, 0, scalar, 0, KEY);
            scalar[0] &= (byte) 248;
            scalar[31] = (byte) (scalar[31] & 127 | 64);
            load(u, publicKey, from);
            setSmall(x2, 1);
            setSmall(z2, 0);
            System.arraycopy(u, 0, x3, 0, DIGITS);
            setSmall(z3, 1);
            int before = 0;
            for (int i = 254; i >= 0; i--) {
                int bit = scalar[i >> 3] >>> (i & 7) & 1;
                if (bit != before) {
                    changePlaces();
                }
                step();
                before = bit;
            }
            if (before == 1) {
                changePlaces();
            }
            invert(z2, a);
            times(x2, x2, a);
            store(x2, into);
        }

        private static void setSmall(long[] number, long value) {
            for (int i = 1; i < DIGITS; i++) {
                number[i] = 0;
            }
            number[0] = value;
        }

        private void changePlaces() {
            for (int i = 0; i < DIGITS; i++) {
                long x = x2[i];
                x2[i] = x3[i];
                x3[i] = x;
                long z = z2[i];
                z2[i] = z3[i];
                z3[i] = z;
            }
        }

        /** The rows are used again as soon as what they held is no longer needed. */
        private void step() {
            plus(a, x2, z2);
            minus(b, x2, z2);
            plus(c, x3, z3);
            minus(d, x3, z3);
            times(d, d, a);
            times(c, c, b);
            plus(x3, d, c);
            times(x3, x3, x3);
            minus(z3, d, c);
            times(z3, z3, z3);
            times(z3, z3, u);
            times(a, a, a);
            times(b, b, b);
            times(x2, a, b);
            minus(b, a, b);
            for (int i = 0; i < DIGITS; i++) {
                sums[i] = 121665 * b[i];
            }
            carryInto(c);
            plus(c, a, c);
            times(z2, b, c);
        }

        private static void plus(long[] into, long[] f, long[] g) {
            for (int i = 0; i < DIGITS; i++) {
                into[i] = f[i] + g[i];
            }
        }

        private static void minus(long[] into, long[] f, long[] g) {
            for (int i = 0; i < DIGITS; i++) {
                into[i] = f[i] - g[i];
            }
        }

        /** Two odd digits meet half a bit too high each, so their product counts twice. */
        private void times(long[] into, long[] f, long[] g) {
            for (int i = 0; i < DIGITS; i++) {
                wide[i] = 19 * g[i];
                wide[DIGITS + i] = g[i];
            }
            long f0 = f[0];
            long f1 = f[1];
            long f2 = f[2];
            long f3 = f[3];
            long f4 = f[4];
            long f5 = f[5];
            long f6 = f[6];
            long f7 = f[7];
            long f8 = f[8];
            long f9 = f[9];
            for (int k = 0; k < DIGITS; k += 2) {
                sums[k] = f0 * wide[k + 10] + f2 * wide[k + 8] + f4 * wide[k + 6]
                    + f6 * wide[k + 4] + f8 * wide[k + 2]
                    + 2 * (f1 * wide[k + 9] + f3 * wide[k + 7] + f5 * wide[k + 5]
                        + f7 * wide[k + 3] + f9 * wide[k + 1]);
                sums[k + 1] = f0 * wide[k + 11] + f1 * wide[k + 10] + f2 * wide[k + 9]
                    + f3 * wide[k + 8] + f4 * wide[k + 7] + f5 * wide[k + 6] + f6 * wide[k + 5]
                    + f7 * wide[k + 4] + f8 * wide[k + 3] + f9 * wide[k + 2];
            }
            carryInto(into);
        }

        private void carryInto(long[] into) {
            long over = 0;
            for (int i = 0; i < DIGITS; i += 2) {
                long even = sums[i] + over;
                into[i] = even & 0x3ffffff;
                long odd = sums[i + 1] + (even >> 26);
                into[i + 1] = odd & 0x1ffffff;
                over = odd >> 25;
            }
            long lowest = into[0] + 19 * over;
            into[0] = lowest & 0x3ffffff;
            into[1] += lowest >> 26;
        }

        /** The power q - 2 has the bits 254 to 0 set, but for 2 and 4. */
        private void invert(long[] number, long[] into) {
            System.arraycopy(number, 0, into, 0, DIGITS);
            for (int i = 253; i >= 0; i--) {
                times(into, into, into);
                if (i != 2 && i != 4) {
                    times(into, into, number);
                }
            }
        }

        /** Bit 255 stays behind, since the digits end below it. */
        private static void load(long[] number, byte[] row, int from) {
            long held = 0;
            int bits = 0;
            int next = 0;
            for (int i = 0; i < DIGITS; i++) {
                int width = 26 - (i & 1);
                for (; bits < width && next < KEY; bits += 8) {
                    held |= (row[from + next] & 255L) << bits;
                    next++;
                }
                number[i] = held & (1L << width) - 1;
                held >>>= width;
                bits -= width;
            }
        }

        private void store(long[] number, byte[] row) {
            reduce(number);
            long held = 0;
            int bits = 0;
            int next = 0;
            for (int i = 0; i < DIGITS; i++) {
                held |= number[i] << bits;
                bits += 26 - (i & 1);
                for (; bits >= 8 && next < KEY; bits -= 8) {
                    row[next] = (byte) held;
                    next++;
                    held >>>= 8;
                }
            }
            row[KEY - 1] = (byte) held;
        }

        /**
         * Carrying three times brings every digit into its range, so the number under 2^255. It is q or
         * more just when with 19 added it goes beyond 2^255; what it has below 2^255 is then itself less q.
         */
        private void reduce(long[] number) {
            for (int time = 0; time < 3; time++) {
                System.arraycopy(number, 0, sums, 0, DIGITS);
                carryInto(number);
            }
            long over = 19;
            for (int i = 0; i < DIGITS; i++) {
                over = number[i] + over >> 26 - (i & 1);
            }
            if (over != 0) {
                number[0] += 19;
                over = 0;
                for (int i = 0; i < DIGITS; i++) {
                    int width = 26 - (i & 1);
                    over += number[i];
                    number[i] = over & (1L << width) - 1;
                    over >>= width;
                }
            }
        }
    }

    /** What a party works on while it greets: h, the chain key, its keys and their numbers. */
    private static final class Chain {
        final Cipher cipher;
        Hasher hasher;
        final byte[] h = new byte[KEY];
        final byte[] chainKey = new byte[KEY];
        final byte[] key = new byte[KEY];
        final byte[] openKey = new byte[KEY];
        boolean keyed;
        long number;
        long openNumber;
        int psks;

        Chain(Cipher cipher, Hasher hasher) {
            this.cipher = cipher;
            this.hasher = hasher;
        }

        void forget() {
            keyed = false;
            number = 0;
            openNumber = 0;
            psks = 0;
        }

        void start(Hasher by, int hash, Pattern pattern) {
            forget();
            hasher = by;
            pattern.putInto(hasher, hash);
            hasher.finish(h);
            System.arraycopy(h, 0, chainKey, 0, KEY);
        }

        void mixHash(byte[] row, int from, int count) {
            hasher.put(h, 0, KEY);
            hasher.put(row, from, count);
            hasher.finish(h);
        }

        void mixKey(byte[] row, int from) {
            hasher.spread(chainKey, row, from, KEY, 2);
            setKey(hasher.second);
        }

        void mixSecret(byte[] secretRow) {
            hasher.spread(chainKey, secretRow, 0, KEY, 3);
            setKey(hasher.third);
            mixHash(hasher.second, 0, KEY);
            psks++;
        }

        private void setKey(byte[] row) {
            System.arraycopy(hasher.first, 0, chainKey, 0, KEY);
            System.arraycopy(row, 0, key, 0, KEY);
            number = 0;
            keyed = true;
        }

        int sizeCovered(int count) {
            return keyed ? count + TAG : count;
        }

        /** Puts the covered text behind what a message has. */
        void cover(byte[] text, int count, Bytes message) {
            int from = message.size;
            int size = sizeCovered(count);
            if (keyed) {
                cipher.prepare(key, number, h, KEY);
                cipher.seal(text, count, message.bytes, from);
                number++;
            } else {
                System.arraycopy(text, 0, message.bytes, from, count);
            }
            message.size = from + size;
            mixHash(message.bytes, from, size);
        }

        /** Whether it opens. */
        boolean uncover(byte[] message, int from, int count, byte[] text) {
            if (keyed) {
                cipher.prepare(key, number, h, KEY);
                if (!cipher.open(message, from, count, text)) {
                    return false;
                }
                number++;
            } else {
                System.arraycopy(message, from, text, 0, count);
            }
            mixHash(message, from, count);
            return true;
        }

        void split(int side) {
            hasher.spread(chainKey, chainKey, 0, 0, 2);
            System.arraycopy(hasher.first, 0, side == 0 ? key : openKey, 0, KEY);
            System.arraycopy(hasher.second, 0, side == 0 ? openKey : key, 0, KEY);
            keyed = true;
            number = 0;
            openNumber = 0;
        }

        /** Sealing 0s leaves the key block of counter 1 itself. */
        void turnKey(byte[] row) {
            cipher.prepareBlocks(row, LAST_NUMBER);
            cipher.makeBlock(1);
            System.arraycopy(cipher.block, 0, row, 0, KEY);
        }
    }

    /** One party: its own keys, the public ones it knows of the other, its OUT and IN, and how far it is. */
    private static final class Party {
        final int side;
        final Pattern pattern;
        final Curve curve;
        final byte[][] secrets;
        final Chain chain;
        final byte[][] privateKeys = new byte[2][KEY];
        final byte[][] publicKeys = new byte[2][KEY];
        /** Whether the public key is that of the private one: it is dear, so made when first needed. */
        final boolean[] publicMade = new boolean[2];
        final byte[][] theirKeys = new byte[2][KEY];
        final byte[] agreed = new byte[KEY];
        final Bytes prelude = new Bytes();
        final Bytes out = new Bytes();
        final Bytes in = new Bytes();
        int done;
        int state;

        Party(int side, Pattern pattern, Curve curve, byte[][] secrets, Chain chain) {
            this.side = side;
            this.pattern = pattern;
            this.curve = curve;
            this.secrets = secrets;
            this.chain = chain;
        }

        void forget() {
            chain.forget();
            out.size = 0;
            in.size = 0;
            done = 0;
            state = NOT_BEGUN;
        }

        void setPrivate(int which, byte[] row) {
            System.arraycopy(row, 0, privateKeys[which], 0, KEY);
            publicMade[which] = false;
        }

        byte[] publicKeyOf(int which) {
            if (!publicMade[which]) {
                curve.agreement(privateKeys[which], curve.base, 0, publicKeys[which]);
                publicMade[which] = true;
            }
            return publicKeys[which];
        }

        void start(Hasher hasher, int hash, Party other) {
            forget();
            chain.start(hasher, hash, pattern);
            chain.mixHash(prelude.bytes, 0, prelude.size);
            for (int i = 0; i < 4; i++) {
                int owner = i >> 1;
                int which = i & 1;
                if ((pattern.knownKeys[owner] >>> which & 1) != 0) {
                    byte[] row = owner == side ? publicKeyOf(which) : other.publicKeyOf(which);
                    chain.mixHash(row, 0, KEY);
                    if (owner != side) {
                        System.arraycopy(row, 0, theirKeys[which], 0, KEY);
                    }
                }
            }
            takeTurn();
        }

        private void takeTurn() {
            if (done < pattern.messages) {
                state = (done & 1) == side ? WRITES : READS;
            } else {
                chain.split(side);
                state = SPLIT;
            }
        }

        boolean mayWrite() {
            if (state == SPLIT) {
                return pattern.letsSend(side) && chain.number != LAST_NUMBER;
            }
            return state == WRITES;
        }

        boolean mayRead() {
            if (state == SPLIT) {
                return pattern.letsSend(1 - side) && chain.openNumber != LAST_NUMBER;
            }
            return state == READS;
        }

        /** The bytes that the next message would have: told beforehand, as a write that throws changes nothing. */
        int sizeOfNext(int payload) {
            if (state == SPLIT) {
                return payload + TAG;
            }
            int size = payload;
            boolean keyed = chain.keyed;
            for (int i = 0; i < pattern.counts[done]; i++) {
                int token = pattern.tokenOf(done, i);
                if (token <= S) {
                    size += token == S && keyed ? KEY + TAG : KEY;
                }
                keyed = keyed || token > S || token == E && pattern.psks > 0;
            }
            return keyed ? size + TAG : size;
        }

        void compose(Bytes payload) {
            out.size = 0;
            if (state == SPLIT) {
                sealAlone(payload);
                return;
            }
            for (int i = 0; i < pattern.counts[done]; i++) {
                int token = pattern.tokenOf(done, i);
                if (token == E) {
                    System.arraycopy(publicKeyOf(E), 0, out.bytes, out.size, KEY);
                    mixE(out.bytes, out.size);
                    out.size += KEY;
                } else if (token == S) {
                    chain.cover(publicKeyOf(S), KEY, out);
                } else {
                    mixToken(token);
                }
            }
            chain.cover(payload.bytes, payload.size, out);
            done++;
            takeTurn();
        }

        private void sealAlone(Bytes payload) {
            chain.cipher.prepare(chain.key, chain.number, chain.h, 0);
            chain.cipher.seal(payload.bytes, payload.size, out.bytes, 0);
            chain.number++;
            out.size = payload.size + TAG;
        }

        private void mixE(byte[] row, int from) {
            chain.mixHash(row, from, KEY);
            if (pattern.psks > 0) {
                chain.mixKey(row, from);
            }
        }

        /** Agreements and psks, which are the same work for the writer and the reader. */
        private void mixToken(int token) {
            if (token == PSK) {
                if (chain.psks < SECRETS) {
                    chain.mixSecret(secrets[chain.psks]);
                }
                return;
            }
            int own = Pattern.keyOf(side, token);
            int theirs = Pattern.keyOf(1 - side, token);
            curve.agreement(privateKeys[own], theirKeys[theirs], 0, agreed);
            chain.mixKey(agreed, 0);
        }

        /** How many bytes its IN has then, or -1. */
        int receive(byte[] message, int size) {
            in.size = 0;
            if (state == SPLIT) {
                return openAlone(message, size);
            }
            int from = 0;
            for (int i = 0; i < pattern.counts[done]; i++) {
                int token = pattern.tokenOf(done, i);
                int count = token > S ? 0 : token == S ? chain.sizeCovered(KEY) : KEY;
                if (size - from < count) {
                    return fail();
                }
                if (token == E) {
                    System.arraycopy(message, from, theirKeys[E], 0, KEY);
                    mixE(message, from);
                } else if (token == S) {
                    if (!chain.uncover(message, from, count, theirKeys[S])) {
                        return fail();
                    }
                } else {
                    mixToken(token);
                }
                from += count;
            }
            int rest = size - from;
            int payload = rest - chain.sizeCovered(0);
            if (!chain.uncover(message, from, rest, in.bytes)) {
                return fail();
            }
            in.size = payload;
            done++;
            takeTurn();
            return payload;
        }

        private int openAlone(byte[] message, int size) {
            chain.cipher.prepare(chain.openKey, chain.openNumber, chain.h, 0);
            if (!chain.cipher.open(message, 0, size, in.bytes)) {
                return -1;
            }
            chain.openNumber++;
            in.size = size - TAG;
            return in.size;
        }

        private int fail() {
            chain.forget();
            state = FAILED;
            return -1;
        }

        /** How many bytes of that row are to be seen now. */
        int bytesToSee(int what) {
            boolean greets = state == WRITES || state == READS;
            boolean seen;
            switch (what) {
                case 0: return out.size;
                case 1: return in.size;
                case 2: seen = greets || state == SPLIT; break;
                case 3: seen = greets; break;
                case 4: seen = chain.keyed; break;
                default: seen = state == SPLIT; break;
            }
            return seen ? KEY : 0;
        }

        byte[] rowOf(int what) {
            switch (what) {
                case 0: return out.bytes;
                case 1: return in.bytes;
                case 2: return chain.h;
                case 3: return chain.chainKey;
                case 4: return chain.key;
                default: return chain.openKey;
            }
        }

        long figure(int what) {
            switch (what) {
                case 0: return state;
                case 1: return out.size;
                case 2: return in.size;
                case 3: return done;
                case 4: return chain.keyed ? 1 : 0;
                case 5: return chain.number;
                case 6: return chain.openNumber;
                default: return chain.psks;
            }
        }
    }
}
