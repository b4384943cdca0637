import java.util.Random;

/** Arguments for calls, always the same for one seed: mostly in range, sometimes at its edges or beyond. */
final class SomeArguments {
    private final Random random;
    private final int mostPeers;
    private final int mostSpace;

    SomeArguments(Random random, int mostPeers, int mostSpace) {
        this.random = random;
        this.mostPeers = mostPeers;
        this.mostSpace = mostSpace;
    }

    /** Three arguments, of which the call takes as many as it has. */
    int[] of(String name, Model present) {
        int[] three = {one(name, 0), one(name, 1), one(name, 2)};
        // Without regard to what is there, these two would hardly ever be possible.
        if (name.equals("decode") && random.nextInt(3) > 0) {
            fitDecode(three, present);
        } else if (name.equals("pay") && random.nextInt(3) > 0) {
            fitPay(three, present);
        }
        return three;
    }

    /** A set with as many members as the file has words, and an index below that. */
    private void fitDecode(int[] three, Model present) {
        int data = present.fileInfo(three[0], 1);
        if (data < 1) {
            return;
        }
        int fragments = data + present.fileInfo(three[0], 2);
        int stored = present.fileInfo(three[0], 3);
        int set = 0;
        while (Integer.bitCount(set) < data) {
            int fragment = random.nextInt(fragments);
            if (stored < data || present.fragment(three[0], fragment, 0) >= 0) {
                set |= 1 << fragment;
            }
        }
        three[1] = set;
        three[2] = random.nextInt(data);
    }

    /** A debtor and its creditor, if there are two, and an amount up to one more than is owed. */
    private void fitPay(int[] three, Model present) {
        int first = random.nextInt(144);
        for (int more = 0; more < 144; more++) {
            int pair = (first + more) % 144;
            int owed = present.balance(pair / 12, pair % 12);
            if (owed > 0) {
                three[0] = pair / 12;
                three[1] = pair % 12;
                three[2] = 1 + random.nextInt(owed + 1);
                return;
            }
        }
    }

    private int one(String name, int at) {
        if (random.nextInt(60) == 0) {
            return Due.WILD[random.nextInt(Due.WILD.length)];
        }
        return switch (name + at) {
            case "join0" -> random.nextInt(20) == 0 ? 39 + random.nextInt(3) : random.nextInt(mostSpace + 1);
            case "leave0", "crash0", "setOnline0", "pay0", "pay1", "peerInfo0", "balance0", "balance1",
                "store0", "audit0", "audit1", "passingSeeds0", "passingSeeds1", "endangered0" ->
                random.nextInt(mostPeers);
            case "setOnline1" -> random.nextInt(10) == 0 ? 2 : random.nextInt(4) == 0 ? 0 : 1;
            case "pay2" -> random.nextInt(20) == 0 ? 999 + random.nextInt(3) : random.nextInt(6);
            case "peerInfo1" -> random.nextInt(7);
            case "word0" -> random.nextInt(8) == 0 ? 254 + random.nextInt(3) : random.nextInt(256);
            case "store1" -> random.nextInt(40) == 0 ? 5 : random.nextInt(5);
            case "delete0", "fileInfo0", "fragment0", "read0", "decode0", "spoil0", "repair0" -> someFile();
            case "fileInfo1" -> random.nextInt(8);
            case "fragment1", "spoil1" -> random.nextInt(random.nextInt(4) == 0 ? 11 : 5);
            case "fragment2" -> random.nextInt(20) == 0 ? 2 : random.nextInt(2);
            case "read1", "decode2" -> random.nextInt(random.nextInt(3) == 0 ? 7 : 3);
            case "decode1" -> random.nextInt(1 << 1 + random.nextInt(10));
            case "spoil2" -> random.nextInt(20) == 0 ? 257 * random.nextInt(2) : spoilAmount();
            case "audit2" -> random.nextInt(30) == 0 ? 257 : random.nextInt(random.nextInt(2) == 0 ? 3 : 257);
            case "repairAll0" -> random.nextInt(7);
            case "count0" -> random.nextInt(10);
            default -> 0;
        };
    }

    private int someFile() {
        return random.nextInt(random.nextInt(3) == 0 ? 9 : 3);
    }

    /** Few different amounts, so that they add up to 257 now and then. */
    private int spoilAmount() {
        return switch (random.nextInt(4)) {
            case 0 -> 1;
            case 1 -> 256;
            case 2 -> 128 + random.nextInt(2);
            default -> 1 + random.nextInt(256);
        };
    }
}
