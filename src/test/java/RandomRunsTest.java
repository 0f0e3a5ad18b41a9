import java.util.Random;

/** All promises: long runs of calls, chosen by a seed, whose answers must be those of the model. */
public final class RandomRunsTest {
    private static final int RUNS = 160;
    private static final int CALLS = 512;
    private static final String[] PATTERNS = {
        "s1 : e es", "s0 s1 : e es ss", "s1 : e es s ss",
        "e / e ee", "e / e ee s es", "s1 : e es / e ee", "e / e ee s es / s se",
        "s0 s1 : e es ss / e ee se", "s0 : e / e ee se", "s1 : e es / e ee / s se",
        "e s / e ee se s es", "s1 : e es s ss / e ee se", "e s / e ee se",
        "s1 : psk e es", "s1 : e es psk", "psk e / e ee", "e / e ee psk", "psk e psk / psk e ee psk",
        "e / e ee s es psk / s se psk", "s0 s1 : e es ss psk / e ee se", "e", "e s", "e psk", "e0 s1 : es",
        "e0 e1 : ee / s / s es se ss", "e0 : s / e ee", "e / e / ee / s es / s se ss", "e1 s1 : e ee es ss",
        "e / e ee / psk / psk / s psk se / s psk es ss", "e s / e s ee es se ss / psk / psk",
        "e / e / s / s / ee / es / se / ss", "e1 s0 : e ee psk / s se es ss",
    };

    private final Random random;
    private final Both both;

    private RandomRunsTest(int seed) {
        random = new Random(seed);
        both = new Both("seed " + seed);
    }

    public static void main(String[] args) {
        for (int seed = 0; seed < RUNS; seed++) {
            new RandomRunsTest(seed).run();
        }
        Answer.end();
    }

    private boolean chance(int percent) {
        return random.nextInt(100) < percent;
    }

    /** Leaves room for the calls that a message, with what is looked at, can take. */
    private boolean goesOn() {
        return both.calls < CALLS - 60;
    }

    private void run() {
        while (both.calls < CALLS - 210) {
            if (chance(80)) {
                both.clear();
            }
            makePattern();
            makeKeys();
            both.begin(chance(95) ? random.nextInt(2) : anyInt());
            greet();
            sendOn();
        }
        while (goesOn()) {
            sendOn();
            anyCall();
        }
        while (both.calls < CALLS) {
            anyCall();
        }
    }

    private void makePattern() {
        if (chance(70)) {
            both.setPattern(PATTERNS[random.nextInt(PATTERNS.length)]);
        } else {
            for (int i = random.nextInt(4); i > 0; i--) {
                both.known(random.nextInt(2), random.nextInt(2));
            }
            for (int m = 1 + random.nextInt(9); m > 0; m--) {
                for (int t = 1 + random.nextInt(chance(80) ? 4 : 9); t > 0; t--) {
                    both.say(chance(40) ? 0 : random.nextInt(7));
                }
                both.next();
                both.rule();
            }
        }
        if (chance(10)) {
            both.say(random.nextInt(7));
        }
        both.rule();
    }

    private void makeKeys() {
        for (int i = random.nextInt(5); i > 0; i--) {
            both.wipe();
            byte[] row = new byte[chance(95) ? 32 : random.nextInt(70)];
            random.nextBytes(row);
            both.feedAll(row);
            if (chance(70)) {
                both.key(random.nextInt(2), random.nextInt(3));
            } else {
                both.secret(random.nextInt(4));
            }
        }
        both.wipe();
        if (chance(20)) {
            byte[] row = new byte[random.nextInt(65)];
            random.nextBytes(row);
            for (int party = 0; party < 2; party++) {
                both.feedAll(row);
                both.key(party, 2);
            }
        }
    }

    private void feedSome() {
        if (chance(60)) {
            byte[] row = new byte[random.nextInt(chance(90) ? 24 : 150)];
            random.nextBytes(row);
            both.feedAll(row);
        }
    }

    private void greet() {
        int messages = both.model.messages.size();
        for (int m = 0; m < messages && goesOn(); m++) {
            if (chance(7)) {
                anyCall();
            }
            feedSome();
            both.write(m % 2);
            if (chance(4)) {
                both.alter(m % 2, random.nextInt(60), 1 << random.nextInt(8));
            }
            see();
            both.deliver(1 - m % 2);
            see();
        }
    }

    private void sendOn() {
        for (int i = random.nextInt(8); i > 0 && goesOn(); i--) {
            int party = random.nextInt(2);
            switch (random.nextInt(6)) {
                case 0:
                    long v = random.nextInt(4) - 2;
                    both.number(party, true, v);
                    both.number(1 - party, false, v);
                    break;
                case 1:
                    both.rekey(party, true);
                    if (chance(80)) {
                        both.rekey(1 - party, false);
                    }
                    break;
                case 2:
                    anyCall();
                    break;
                default:
                    feedSome();
                    both.write(party);
                    if (chance(10)) {
                        both.alter(party, random.nextInt(20), random.nextInt());
                    }
                    both.deliver(1 - party);
                    break;
            }
            see();
        }
    }

    private void see() {
        int party = random.nextInt(2);
        both.look(party, random.nextInt(8));
        both.at(party, random.nextInt(6), random.nextInt(32));
        both.at(1 - party, random.nextInt(2), random.nextInt(64));
    }

    private int anyInt() {
        switch (random.nextInt(4)) {
            case 0: return random.nextInt(4) - 1;
            case 1: return random.nextInt();
            case 2: return random.nextInt(70) - 2;
            default: return chance(50) ? Integer.MAX_VALUE : Integer.MIN_VALUE;
        }
    }

    private int party() {
        return chance(85) ? random.nextInt(2) : anyInt();
    }

    private void anyCall() {
        switch (random.nextInt(20)) {
            case 0: both.feed(chance(80) ? 1 + random.nextInt(8) : anyInt(), random.nextLong()); break;
            case 1: both.wipe(); break;
            case 2: both.clear(); break;
            case 3: both.known(party(), chance(70) ? random.nextInt(2) : anyInt()); break;
            case 4: both.say(chance(70) ? random.nextInt(7) : anyInt()); break;
            case 5: both.next(); break;
            case 6: both.rule(); break;
            case 7: both.key(party(), chance(70) ? random.nextInt(3) : anyInt()); break;
            case 8: both.secret(chance(70) ? random.nextInt(4) : anyInt()); break;
            case 9: both.begin(chance(70) ? random.nextInt(2) : anyInt()); break;
            case 10: both.write(party()); break;
            case 11: both.read(party()); break;
            case 12: both.deliver(party()); break;
            case 13: both.alter(party(), anyInt(), anyInt()); break;
            case 14: both.number(party(), chance(50), chance(50) ? random.nextLong() : anyInt()); break;
            case 15: both.rekey(party(), chance(50)); break;
            case 16: both.hash(chance(70) ? random.nextInt(2) : anyInt()); break;
            case 17: both.result(chance(70) ? random.nextInt(32) : anyInt()); break;
            case 18: both.at(party(), chance(70) ? random.nextInt(6) : anyInt(), anyInt()); break;
            default: both.look(party(), chance(70) ? random.nextInt(8) : anyInt()); break;
        }
    }
}
