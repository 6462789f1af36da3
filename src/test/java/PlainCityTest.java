import java.util.Random;

/** Long runs of calls by a fixed seed, each answer beside that of the plain city. */
public final class PlainCityTest {
    private static final int RUNS = 150, CALLS = 512;
    private static final int[] EDGES = {-1, -2, 8, 9, 10, 11, 12, 13, 60, 61, 99, 100, Integer.MIN_VALUE, Integer.MAX_VALUE};

    private final Random random;
    private final ThievesPaid x = new ThievesPaid();
    private final PlainCity y = new PlainCity();
    private final String name;

    private PlainCityTest(int run) {
        random = new Random(run);
        name = "run " + run + ", call ";
    }

    public static void main(String[] args) {
        for (int run = 0; run < RUNS; run++) {
            new PlainCityTest(run).run();
        }
        Check.finish();
    }

    private void run() {
        if (random.nextInt(4) > 0) {
            writeContracts();
            Check.due(name + "first contracts", x.contracts(), y.contracts());
        }
        for (int s = random.nextInt(9); s > 0; s--) {
            int house = random.nextInt(8), worth = 1 + random.nextInt(random.nextBoolean() ? 99 : 6);
            Check.due(name + "first spoons", x.spoon(house, worth), y.spoon(house, worth));
        }
        for (int call = 40; call < CALLS; call++) {
            ask(name + call + ": ", random.nextInt(40));
        }
        Check.due(name + "digest at last", x.digest(), y.digest());
    }

    /** A number of a range, now and then one beside it. */
    private int number(int low, int high) {
        return random.nextInt(12) == 0 ? EDGES[random.nextInt(EDGES.length)] : low + random.nextInt(high - low + 1);
    }

    private void write(String text) {
        for (int i = 0; i < text.length(); i += 8) {
            long w = Check.codes(text.substring(i, Math.min(text.length(), i + 8)));
            Check.due(name + "letters " + text, x.letters(w), y.letters(w));
        }
    }

    private void writeContracts() {
        Check.due(name + "blank ahead", x.blank(), y.blank());
        StringBuilder b = new StringBuilder();
        int few = random.nextBoolean() ? 3 : 8;
        for (int n = 1 + random.nextInt(8); n > 0; n--) {
            int payer = random.nextInt(few);
            int robbed = (payer + 1 + random.nextInt(few - 1)) % few;
            b.append(new String[] {"", "", "s", "b", "h", "m"}[random.nextInt(6)]);
            b.append(payer).append(robbed).append(random.nextInt(10)).append(n > 1 ? "," : "");
        }
        if (random.nextInt(6) == 0) {
            b.insert(random.nextInt(b.length() + 1), "sbhm,0178 ".charAt(random.nextInt(10)));
        }
        write(b.toString());
    }

    private void ask(String at, int which) {
        if (which < 8) {
            askContracts(at, which);
        } else if (which < 18) {
            askHouses(at, which);
        } else if (which < 30) {
            askOutlook(at, which);
        } else {
            askRest(at, which);
        }
    }

    private void askContracts(String at, int which) {
        int thief = number(0, 7), v = number(0, 10);
        boolean is = random.nextBoolean();
        switch (which) {
            case 0:
                long w = random.nextInt(3) == 0 ? random.nextLong() : random.nextInt(1 << 14);
                Check.due(at + "letters " + w, x.letters(w), y.letters(w));
                break;
            case 1:
                if (random.nextInt(6) == 0) {
                    writeContracts();
                }
                Check.due(at + "fault", x.fault(), y.fault());
                break;
            case 2: Check.due(at + "contracts", x.contracts(), y.contracts()); break;
            case 3: Check.due(at + "about " + thief + " " + v, x.about(thief, v / 2), y.about(thief, v / 2)); break;
            case 4: Check.due(at + "as " + thief + " " + v, x.as(thief, v / 2), y.as(thief, v / 2)); break;
            case 5: Check.due(at + "paid " + thief, x.paid(thief, is), y.paid(thief, is)); break;
            case 6: Check.due(at + "tenths " + thief + " " + v, x.tenths(thief, v), y.tenths(thief, v)); break;
            default:
                if (random.nextInt(4) == 0) {
                    Check.due(at + "blank", x.blank(), y.blank());
                }
                break;
        }
    }

    private void askHouses(String at, int which) {
        int house = number(0, 7), spoon = number(0, 7);
        boolean is = random.nextInt(3) == 0;
        switch (which) {
            case 8: {
                int lock = random.nextBoolean() ? 0 : number(0, 9);
                Check.due(at + "lock " + house + " " + lock, x.lock(house, lock), y.lock(house, lock));
                break;
            }
            case 9: Check.due(at + "dog " + house + " " + is, x.dog(house, is), y.dog(house, is)); break;
            case 10: {
                int worth = number(1, 99);
                if (random.nextInt(8) == 0) {
                    Check.due(at + "spoon " + house + " " + worth, x.spoon(house, worth), y.spoon(house, worth));
                }
                break;
            }
            case 11: {
                int what = number(0, 3);
                Check.due(at + "silver " + spoon + " " + what, x.silver(spoon, what), y.silver(spoon, what));
                break;
            }
            case 12: Check.due(at + "worth " + house, x.worth(house), y.worth(house)); break;
            default: Check.due(at + "month", x.month(), y.month()); break;
        }
    }

    private void askOutlook(String at, int which) {
        int house = number(0, 7), spoon = number(0, 7), what = number(0, 1);
        switch (which) {
            case 18: case 19: case 20: {
                int months = number(0, 60);
                Check.due(at + "where " + spoon + " " + months, x.where(spoon, months), y.where(spoon, months));
                break;
            }
            case 21: case 22: case 23: {
                int months = number(1, 2);
                Check.due(at + "chance " + spoon + " " + months + " " + house + " " + what,
                    x.chance(spoon, months, house, what), y.chance(spoon, months, house, what));
                break;
            }
            case 24: case 25: case 26: {
                int months = number(0, 12);
                Check.due(at + "whom " + house + " " + months + " " + what,
                    x.whom(house, months, what), y.whom(house, months, what));
                break;
            }
            case 27: case 28: Check.due(at + "still", x.still(), y.still()); break;
            default: {
                int times = number(1, 60), seed = number(0, Integer.MAX_VALUE - 1), asked = number(0, 2);
                Check.due(at + "months " + times + " " + seed + " " + asked,
                    x.months(times, seed, asked), y.months(times, seed, asked));
                break;
            }
        }
    }

    private void askRest(String at, int which) {
        int house = number(-1, 7), spoon = number(0, 7), other = number(0, 7), what = number(0, 6);
        switch (which) {
            case 30: Check.due(at + "seen " + spoon + " " + house, x.seen(spoon, house), y.seen(spoon, house)); break;
            case 31: Check.due(at + "unseen " + spoon, x.seen(spoon, -1), y.seen(spoon, -1)); break;
            case 32: {
                // Mostly where it would be, so that who() has something to find.
                int would = y.where(spoon, 1);
                Check.due(at + "seen there " + spoon + " " + would, x.seen(spoon, would), y.seen(spoon, would));
                break;
            }
            case 33: case 34: Check.due(at + "who", x.who(), y.who()); break;
            case 35: Check.due(at + "owes " + house + " " + other, x.owes(house, other), y.owes(house, other)); break;
            case 36: Check.due(at + "fewest", x.fewest(), y.fewest()); break;
            case 37: Check.due(at + "image", x.image(), y.image()); break;
            case 38: Check.due(at + "restore", x.restore(), y.restore()); break;
            default:
                Check.due(at + "count " + what, x.count(what), y.count(what));
                if (random.nextInt(4) == 0) {
                    Check.due(at + "digest", x.digest(), y.digest());
                }
                break;
        }
    }
}
