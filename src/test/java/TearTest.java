/**
 * A ride torn at every word that it writes, and mended by a next gate that is torn at every word
 * itself. What must hold then needs no second telling of the document: a ride is noted when it was
 * paid and only then, and a passenger who validates again pays once in all.
 */
public final class TearTest {
    private static final int LINE = 6;
    private static final int ZONE = 2;
    private static final int FARE = 150 + 20 * ZONE + 35 * (LINE % 4);
    private static final int NOON = 720;
    private static final int[] JUNKS = {0, 1, 2, 255, 256, 4096, 21845, 43690, 65534, 65535};

    private static int wrong = 0;
    private static int rides = 0;
    private static int byChance = 0;
    private static String story = "";

    /** A product, and how many words a ride that it pays for writes. */
    private static final class Product {
        final int kind;
        final int p1;
        final int p2;
        final int p3;
        final int words;

        Product(int kind, int p1, int p2, int p3, int words) {
            this.kind = kind;
            this.p1 = p1;
            this.p2 = p2;
            this.p3 = p3;
            this.words = words;
        }
    }

    private static final Product[] PRODUCTS = {
        new Product(1, 20, 0, 0, 17), new Product(2, 65535, 0, 9999, 16),
        new Product(3, 0, 9000, 0, 24), new Product(3, 100, 9000, 0, 24),
        new Product(3, FARE + 70, 9000, 0, 24),
    };

    public static void main(String[] args) {
        for (Product product : PRODUCTS) {
            for (int before : new int[] {0, 1, 2, 3, 16, 17}) {
                tearAll(product, before);
            }
        }
        System.out.println(rides + " torn rides, " + byChance + " records right by chance, " + wrong
                + " wrong answers");
        if (wrong != 0) {
            System.exit(1);
        }
    }

    private static void due(String call, long got, long want) {
        if (got != want) {
            wrong++;
            System.out.println(story + ": " + call + " answered " + got + ", due is " + want);
        }
    }

    private static void tearAll(Product product, int before) {
        for (int n = 0; n < product.words; n++) {
            for (int junk : JUNKS) {
                tearOnce(product, before, n, junk);
            }
            tearOnce(product, before, n, wordDue(product, before, n));
        }
    }

    private static void tearOnce(Product product, int before, int n, int junk) {
        if (isRightByChance(torn(product, before, n, junk), product, before, n)) {
            byChance++;
            return;
        }
        takenAwayAgain(product, before, n, junk);
        for (int again = -1; again < 9; again++) {
            validatedAgain(product, before, n, junk, again);
        }
    }

    /**
     * Junk in the middle may bring a record to a right sum: then the tag tells what no gate wrote,
     * and cannot know it. BoundaryTest and ModelTest ask what the document makes of that.
     */
    private static boolean isRightByChance(TicketTag x, Product product, int before, int n) {
        int w = wordOfRecord(product, n);
        if (w < 0 || w == 7) {
            return false;
        }
        int block = blockOf(product, before, n);
        int sum = 0;
        for (int i = 0; i < 7; i++) {
            sum += x.word(block + i / 4, i % 4);
            sum -= sum > 65535 ? 65535 : 0;
        }
        return x.word(block + 1, 3) == 65535 - sum;
    }

    /** The word that a ride writes behind n others: torn by it, a word is as it should be. */
    private static int wordDue(Product product, int before, int n) {
        TicketTag whole = readyToRide(product, before);
        due("a whole ride", ride(whole), product.kind == 2 ? 2 : 0);
        int w = wordOfRecord(product, n);
        int block = blockOf(product, before, n);
        return w < 0 ? whole.word(block, before / 16) : whole.word(block + w / 4, w % 4);
    }

    /** -1: a word of the one-time bits, which are no record. */
    private static int wordOfRecord(Product product, int n) {
        if (product.kind == 1 && n >= 8) {
            return n - 9;
        }
        return n % 8;
    }

    private static int blockOf(Product product, int before, int n) {
        boolean odd = before % 2 == 0;
        if (n < 8) {
            return odd ? 41 : 43;
        }
        if (n >= product.words - 8) {
            return 9 + 2 * ((before + 1) % 16);
        }
        return product.kind == 1 ? 4 : odd ? 7 : 5;
    }

    /** Rides are a day apart: none is free by the one before it, and each day has its own cap. */
    private static TicketTag readyToRide(Product product, int before) {
        TicketTag x = new TicketTag();
        x.issue(product.kind, product.p1, product.p2, product.p3);
        x.present(0);
        for (int ride = 0; ride <= before; ride++) {
            x.setClock(0, ride, NOON);
            if (ride < before) {
                ride(x);
            }
        }
        x.setClock(1, before, NOON + 3);
        return x;
    }

    private static int ride(TicketTag x) {
        return x.validate(LINE, ZONE, 1);
    }

    private static TicketTag torn(Product product, int before, int n, int junk) {
        rides++;
        story = "kind " + product.kind + ", cap " + product.p1 + ", behind " + before
                + " rides, torn after " + n + " by " + junk;
        TicketTag x = readyToRide(product, before);
        int written = x.count(0);
        x.tearAfter(n, junk);
        due("validate", ride(x), 4);
        due("count(0)", x.count(0), written + n + 1);
        due("count(2)", x.count(2), 1);
        due("count(3)", x.count(3), 0);
        return x;
    }

    private static int paid(TicketTag x, Product product) {
        return product.kind == 1 ? product.p1 - x.rides() : product.p2 - x.cents();
    }

    private static int price(Product product, int paidRides) {
        int price = product.kind == 1 ? 1 : product.p1 == 0 ? FARE : Math.min(FARE, product.p1);
        return price * paidRides;
    }

    private static void takenAwayAgain(Product product, int before, int n, int junk) {
        TicketTag x = torn(product, before, n, junk);
        due("present", x.present(1), product.kind);
        due("away()", x.away() ? 1 : 0, 1);
        boolean noted = x.lastRide(6) == before + 1;
        if (!noted) {
            due("the ride before", x.lastRide(6), before == 0 ? -1 : before);
        }
        due("a journey that is wanting", x.lastRide(7), !noted && before == 0 ? -1 : 0);
        if (product.kind != 2) {
            due("paid", paid(x, product), price(product, noted ? before + 1 : before));
        }
        if (noted) {
            dueJourney(x, product, before);
        } else if (n >= 8) {
            dueErased(x, blockOf(product, before, 0));
        }
        int written = x.count(0);
        due("present", x.present(1), product.kind);
        due("nothing is left to mend", x.count(0), written);
    }

    private static void dueErased(TicketTag x, int block) {
        for (int w = 0; w < 8; w++) {
            due("a word of the ride that was not paid", x.word(block + w / 4, w % 4), 0);
        }
    }

    private static void dueJourney(TicketTag x, Product product, int day) {
        int code = product.kind == 2 ? 2 : 0;
        int cents = product.kind == 3 ? price(product, 1) : 0;
        int[] journey = {day, NOON, LINE, ZONE, 1, code, 0, cents, 0};
        for (int what = 0; what < journey.length; what++) {
            due("journey(0, " + what + ")", x.journey(0, what), journey[what]);
        }
    }

    /** The mending present() is torn after some words; less than 0: it is not. */
    private static void validatedAgain(Product product, int before, int n, int junk, int again) {
        TicketTag x = torn(product, before, n, junk);
        story = story + ", then after " + again;
        if (again >= 0) {
            x.tearAfter(again, junk);
            int met = x.present(1);
            due("away(), unless it was torn", x.away() ? 1 : 0, met == 4 ? 0 : 1);
        }
        boolean paid = x.lastRide(6) == before + 1;
        boolean finished = paid && x.lastRide(7) == 0;
        due("present", x.present(1), product.kind);
        int written = x.count(0);
        int code = finished && product.kind != 2 ? 1 : product.kind == 2 ? 2 : 0;
        due("validate", ride(x), code);
        if (paid && !finished) {
            due("the ride that is open", x.count(0), written);
        }
        due("lastRide(4)", x.lastRide(4), LINE);
        due("lastRide(7)", x.lastRide(7), 0);
        if (product.kind != 2) {
            due("paid once", paid(x, product), price(product, before + 1));
        }
        if (product.kind == 3 && product.p1 != 0) {
            due("capLeft", x.capLeft(before), product.p1 - price(product, 1));
        }
    }
}
