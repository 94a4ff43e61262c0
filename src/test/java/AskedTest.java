/** Promises 27 to 34: what is asked. */
public final class AskedTest {
    public static void main(String[] args) {
        promise27Day();
        promise28ThingOf();
        promise29TicketOf();
        promise29Interest();
        promise29InterestRounded();
        promise29InterestOfSteps();
        promise30InterestAnew();
        promise31ExpertOf();
        promise32Bears();
        promise33Money();
        promise34MoneyAnew();
        Checks.end("AskedTest");
    }

    private static Pledgehouse house() {
        Pledgehouse x = new Pledgehouse();
        x.deposit(5000);
        x.thing(Pledgehouse.TOOL, 5, 1010);
        x.thing(Pledgehouse.RING, 5, 1010);
        x.pledge(4, 1, 1, 2, 501, false);
        return x;
    }

    private static void promise27Day() {
        Pledgehouse x = house();
        Checks.due("27: first", x.day(), 0);
        x.pass(17);
        Checks.due("27: then", x.day(), 17);
        Checks.noArgument("27: refused", () -> x.pass(0));
        Checks.due("27: still", x.day(), 17);
    }

    private static void promise28ThingOf() {
        Pledgehouse x = house();
        Checks.noIndex("28: thing -1", () -> x.thingOf(-1, 0));
        Checks.noIndex("28: thing 2 goes first", () -> x.thingOf(2, 7));
        Checks.noArgument("28: what -1", () -> x.thingOf(0, -1));
        Checks.noArgument("28: what 7", () -> x.thingOf(0, 7));
        long[] out = {Pledgehouse.TOOL, 1010, 0, Pledgehouse.OUT, -1, -1, 0};
        long[] stored = {Pledgehouse.RING, 1010, 0, Pledgehouse.STORED, 9, 0, 1};
        x.police(1);
        for (int what = 0; what < 7; what++) {
            Checks.due("28: OUT " + what, x.thingOf(0, what), out[what]);
            Checks.due("28: STORED " + what, x.thingOf(1, what), stored[what]);
        }
        x.stray(1, 0, 3);
        Checks.due("28: its place in the book", x.thingOf(1, 4), 9);
        x.court(1, false);
        x.count(0);
        Checks.due("28: its place as counted", x.thingOf(1, 4), 3);
        Checks.due("28: listed no more", x.thingOf(1, 6), 0);
    }

    private static void promise29TicketOf() {
        Pledgehouse x = house();
        Checks.noIndex("29: ticket -1", () -> x.ticketOf(-1, 0));
        Checks.noIndex("29: ticket 1 goes first", () -> x.ticketOf(1, 10));
        Checks.noArgument("29: what -1", () -> x.ticketOf(0, -1));
        Checks.noArgument("29: what 10", () -> x.ticketOf(0, 10));
        x.pass(121);
        x.offer(0, 1);
        x.notice(0, 2);
        x.police(1);
        // 501 at 10, 15 thousandths: 6 each, then 8 each
        long[] open = {Pledgehouse.OPEN, 1, 501, 6 * 6 + 3 * 8, 4, 0, 120, 0, 3, 1};
        for (int what = 0; what < 10; what++) {
            Checks.due("29: OPEN " + what, x.ticketOf(0, what), open[what]);
        }
        x.show(0);
        x.court(1, false);
        x.offer(0, 1000);
        x.police(1);
        long[] sold = {Pledgehouse.SOLD, 1, 501, 0, 4, 0, 120, 1000 - 50 - 501 - 60, 0, 1};
        for (int what = 0; what < 10; what++) {
            Checks.due("29: SOLD " + what, x.ticketOf(0, what), sold[what]);
        }
    }

    private static void promise29Interest() {
        Pledgehouse x = house();
        int[] days = {3, 4, 13, 14, 27, 28, 83, 84, 97, 98, 251, 252, 265, 266, 280};
        int[] due = {0, 6, 6, 12, 12, 18, 36, 44, 44, 52, 36 + 12 * 8, 132 + 11, 143, 154, 165};
        for (int i = 0; i < days.length; i++) {
            x.pass(days[i] - x.day());
            Checks.due("29: interest on " + days[i], x.ticketOf(0, 3), due[i]);
            Checks.due("30: interest on " + days[i], x.interestAnew(0), due[i]);
        }
    }

    /** Each fortnight is rounded up by itself. */
    private static void promise29InterestRounded() {
        Pledgehouse x = new Pledgehouse();
        x.deposit(100000);
        x.charter(0, 90, 100000);
        x.thing(Pledgehouse.RING, 1, 10000);
        x.thing(Pledgehouse.RING, 1, 10000);
        x.rate(0, 1);
        x.pledge(0, 0, 0, 0, 1, true);
        x.pledge(0, 1, 0, 0, 9000, true);
        x.pass(4);
        Checks.due("29: a thousandth of 1", x.ticketOf(0, 3), 1);
        Checks.due("29: a thousandth of 9000", x.ticketOf(1, 3), 9);
        x.pass(10);
        x.rate(0, 100);
        Checks.due("29: and a tenth of 1", x.ticketOf(0, 3), 2);
        Checks.due("29: and a tenth of 9000", x.ticketOf(1, 3), 909);
        x.pass(14);
        x.rate(0, 0);
        Checks.due("29: and nothing of 1", x.ticketOf(0, 3), 2);
        Checks.due("29: and nothing of 9000", x.ticketOf(1, 3), 909);
    }

    /** The steps 0, 1 and 2 have rates of their own, each from the day on which it was told. */
    private static void promise29InterestOfSteps() {
        Pledgehouse x = house();
        x.rate(0, 2);
        x.rate(1, 4);
        x.rate(2, 6);
        x.pass(69);
        x.rate(1, 100);
        x.rate(0, 4);
        x.pass(1);
        x.rate(1, 8);
        x.pass(200);
        x.rate(2, 10);
        x.pass(10);
        // of 501, rounded up: five times 2 thousandths, once 4, twelve times 8, twice 6 and once 10
        Checks.due("29: steps", x.ticketOf(0, 3), 5 * 2 + 3 + 12 * 5 + 2 * 4 + 6);
        Checks.due("30: steps", x.interestAnew(0), 87);
    }

    private static void promise30InterestAnew() {
        Pledgehouse x = house();
        Checks.noIndex("30: ticket -1", () -> x.interestAnew(-1));
        Checks.noIndex("30: ticket 1", () -> x.interestAnew(1));
        x.pass(100);
        x.rate(1, 40);
        x.amnesty(90, 98);
        x.amnesty(0, 3);
        x.pass(30);
        // from the day 0: free; 14 to 70: 6 each; 84: 8; 98: free; 112, 126: 21 each
        Checks.due("30: rates and amnesties", x.interestAnew(0), 5 * 6 + 8 + 2 * 21);
        x.renew(0, 4, 1);
        Checks.due("30: renewed", x.interestAnew(0), 0);
        x.pass(15);
        Checks.due("30: renewed, with the day of that", x.interestAnew(0), 10);
        x.redeem(0, 4);
        Checks.due("30: not OPEN", x.interestAnew(0), 0);
    }

    private static void promise31ExpertOf() {
        Pledgehouse x = house();
        Checks.noIndex("31: expert -1", () -> x.expertOf(-1, 0));
        Checks.noIndex("31: expert 4 goes first", () -> x.expertOf(4, 3));
        Checks.noArgument("31: what -1", () -> x.expertOf(0, -1));
        Checks.noArgument("31: what 3", () -> x.expertOf(0, 3));
        x.bias(1, 3);
        x.pass(121);
        x.offer(0, 561);
        Checks.due("31: the bias", x.expertOf(1, 0), 3);
        Checks.due("31: what was charged", x.expertOf(1, 1), 28);
        Checks.due("31: the judgement", x.expertOf(1, 2), 561 - 1010);
        for (int expert : new int[] {0, 2, 3}) {
            Checks.due("31: others", x.expertOf(expert, 1) + x.expertOf(expert, 2), 0);
        }
        x.pledge(4, 0, 1, 0, 100, true);
        x.police(0);
        x.court(0, true);
        Checks.due("31: charged together", x.expertOf(1, 1), 128);
    }

    private static void promise32Bears() {
        Pledgehouse x = house();
        Checks.noIndex("32: branch -1", () -> x.bears(-1, 0));
        Checks.noIndex("32: branch 3", () -> x.bears(3, 0));
        Checks.noIndex("32: shelf -1", () -> x.bears(0, -1));
        Checks.noIndex("32: shelf 4", () -> x.bears(0, 4));
        Checks.due("32: empty", x.bears(0, 0), 60);
        Checks.due("32: with a thing", x.bears(2, 1), 55);
        for (int i = 0; i < 13; i++) {
            int thing = x.thing(Pledgehouse.RING, 5, 100);
            x.pledge(0, thing, 0, 0, 1, true);
            x.stray(thing, 1, 3);
        }
        Checks.due("32: below 0", x.bears(1, 3), -5);
        Checks.due("32: strayed from", x.bears(0, 1), 60);
        Checks.due("32: others", x.bears(1, 2), 60);
    }

    private static void promise33Money() {
        Pledgehouse x = house();
        Checks.noArgument("33: what -1", () -> x.money(-1));
        Checks.noArgument("33: what 4", () -> x.money(4));
        x.pass(121);
        x.offer(0, 1000);
        long[] due = {5000 - 501 + 1000, 389, 5499 - 389, 0};
        for (int what = 0; what < 4; what++) {
            Checks.due("33: " + what, x.money(what), due[what]);
        }
    }

    private static void promise34MoneyAnew() {
        Pledgehouse x = new Pledgehouse();
        Checks.due("34: first", x.moneyAnew(), 0);
        x.deposit(5000);
        x.thing(Pledgehouse.RING, 5, 1000);
        x.thing(Pledgehouse.RING, 5, 1000);
        x.pledge(0, 0, 0, 0, 400, true);
        x.pledge(0, 1, 0, 0, 400, true);
        Checks.due("34: loans", x.moneyAnew(), 4200);
        x.pass(14);
        x.renew(0, 0, 100);
        Checks.due("34: a renewal", x.moneyAnew(), 4308);
        x.pass(121);
        x.redeem(0, 0);
        Checks.due("34: a redeemed one", x.moneyAnew(), 4308 + 300 + 6 * 3 + 3 * 5);
        x.offer(1, 900);
        Checks.due("34: a sale", x.moneyAnew(), 4641 + 900);
        x.withdraw(41);
        Checks.due("34: a withdrawal", x.moneyAnew(), 5500);
        x.claim(1, 0);
        Checks.due("34: a claim", x.moneyAnew(), 5500 - (900 - 45 - 400 - 24 - 24));
        Checks.due("34: the money", x.moneyAnew(), x.money(0));
        Checks.noState("34: refused", () -> x.withdraw(6000));
        Checks.due("34: refusals move nothing", x.moneyAnew(), x.money(0));
    }
}
