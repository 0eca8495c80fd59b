/** THE PLAN once more, from the last HOUR backwards. */
final class PlainPlan {
    /** The best that can be done from an HOUR on. */
    record Rest(long price, int hours, int bits) {
        Rest with(int h, int cost) {
            return new Rest(price + cost, hours + 1, bits | 1 << h);
        }

        boolean betterThan(Rest other) {
            if (other == null || price != other.price) {
                return other == null || price < other.price;
            }
            return hours != other.hours ? hours < other.hours : bits < other.bits;
        }
    }

    private final int[] prices;
    private final int[] needs;
    private final int rate;
    private final Rest[][] known = new Rest[24][25];
    private final boolean[][] looked = new boolean[24][25];

    PlainPlan(int[] prices, int[] needs, int rate) {
        this.prices = prices;
        this.needs = needs;
        this.rate = rate;
    }

    /** Null, if no PLAN meets all NEEDS. */
    Rest best() {
        return from(0, 0);
    }

    private Rest from(int h, int going) {
        if (h == 24) {
            return new Rest(0, 0, 0);
        }
        if (!looked[h][going]) {
            looked[h][going] = true;
            known[h][going] = better(met(h, going), met(h, going + 1), h);
        }
        return known[h][going];
    }

    /** With so many HOURS by the end of HOUR h. */
    private Rest met(int h, int going) {
        return going * rate < needs[h] ? null : from(h + 1, going);
    }

    private Rest better(Rest without, Rest rest, int h) {
        if (rest == null) {
            return without;
        }
        Rest with = rest.with(h, prices[h]);
        return with.betterThan(without) ? with : without;
    }
}
