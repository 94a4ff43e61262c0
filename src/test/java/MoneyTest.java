/** Promises 23 to 26: sales and money. */
public final class MoneyTest {
    public static void main(String[] args) {
        promise23Refusals();
        promise23Surplus();
        promise23Charged();
        promise23Reserve();
        promise23Judgement();
        promise24Claim();
        promise24Gift();
        promise25Deposit();
        promise26Withdraw();
        Checks.end("MoneyTest");
    }

    /** A house in which the person 4 pledged a ring of 1000 for 500, and as many days have passed. */
    private static Pledgehouse house(int days) {
        Pledgehouse x = new Pledgehouse();
        x.deposit(5000);
        x.thing(Pledgehouse.RING, 5, 1000);
        x.pledge(4, 0, 1, 0, 500, false);
        if (days > 0) {
            x.pass(days);
        }
        return x;
    }

    private static void promise23Refusals() {
        Pledgehouse x = house(120);
        Checks.noIndex("23: ticket -1", () -> x.offer(-1, 5));
        Checks.noIndex("23: ticket 1 goes first", () -> x.offer(1, -1));
        Checks.noArgument("23: price -1", () -> x.offer(0, -1));
        Checks.noArgument("23: price 100001", () -> x.offer(0, 100001));
        Checks.noState("23: not overdue", () -> x.offer(0, 900));
        x.pass(1);
        x.notice(0, 2);
        Checks.noState("23: barred by a notice", () -> x.offer(0, 900));
        x.show(0);
        x.police(0);
        Checks.noState("23: barred by a list", () -> x.offer(0, 900));
        x.court(0, false);
        x.stray(0, 0, 0);
        Checks.noState("23: cannot be found", () -> x.offer(0, 900));
        Checks.noArgument("23: argument ahead of state", () -> x.offer(0, 100001));
        x.count(0);
        Checks.due("23: none was in vain", x.ticketOf(0, 9), 0);
        // the interest: 6 * 5 + 3 * 8
        Checks.due("23: sold", x.offer(0, 900), 900 - 45 - 500 - 54);
        Checks.noState("23: not OPEN", () -> x.offer(0, 900));
    }

    private static void promise23Surplus() {
        Pledgehouse x = house(121);
        Checks.due("23: fee rounded down", x.offer(0, 619), 619 - 30 - 554);
        Checks.due("23: SOLD", x.ticketOf(0, 0), Pledgehouse.SOLD);
        Checks.due("23: OUT", x.thingOf(0, 3), Pledgehouse.OUT);
        Checks.due("23: no place", x.thingOf(0, 4), Pledgehouse.NONE);
        Checks.due("23: no ticket", x.thingOf(0, 5), Pledgehouse.NONE);
        Checks.due("23: its shelf", x.bears(0, 1), 60);
        Checks.due("23: kept", x.ticketOf(0, 7), 35);
        Checks.due("23: interest", x.ticketOf(0, 3), 0);
        Checks.due("23: money", x.money(0), 5119);
        Checks.due("23: kept in all", x.money(1), 35);
        Checks.due("23: free", x.money(2), 5084);
        Checks.due("23: not charged", x.expertOf(1, 1), 0);
        Checks.due("23: held", x.ticketOf(0, 4), 4);
        Checks.due("23: its last day", x.ticketOf(0, 6), 120);
        Checks.due("23: pledged anew", x.pledge(2, 0, 0, 0, 500, true), 1);
        Checks.due("23: most", house(121).offer(0, 100000), 100000 - 5000 - 554);
    }

    private static void promise23Charged() {
        Pledgehouse x = house(121);
        Checks.due("23: below the fee", x.offer(0, 554), -27);
        Checks.due("23: charged", x.expertOf(1, 1), 27);
        Checks.due("23: nothing kept", x.ticketOf(0, 7), 0);
        Checks.due("23: nothing kept", x.money(1), 0);
        Checks.due("23: money", x.money(0), 5054);
        Checks.noState("23: nothing to claim", () -> x.claim(0, 4));
        Pledgehouse y = house(121);
        Checks.due("23: neither", y.offer(0, 583), 0);
        Checks.due("23: neither charged", y.expertOf(1, 1), 0);
        Checks.due("23: nor kept", y.ticketOf(0, 7), 0);
        Checks.noState("23: nor claimed", () -> y.claim(0, 4));
    }

    private static void promise23Reserve() {
        Pledgehouse x = house(121);
        Checks.due("23: below loan and interest", x.offer(0, 553), Integer.MIN_VALUE);
        Checks.due("23: in vain", x.ticketOf(0, 9), 1);
        Checks.due("23: OPEN", x.ticketOf(0, 0), Pledgehouse.OPEN);
        Checks.due("23: nothing judged", x.expertOf(1, 2), 0);
        Checks.due("23: below the loan", x.offer(0, 499), Integer.MIN_VALUE);
        Checks.due("23: in vain twice", x.ticketOf(0, 9), 2);
        Checks.due("23: nothing is enough", x.offer(0, 0), -554);
        Checks.due("23: SOLD for nothing", x.ticketOf(0, 0), Pledgehouse.SOLD);
        Checks.due("23: charged", x.expertOf(1, 1), 554);
        Checks.due("23: money", x.money(0), 4500);
        Pledgehouse y = house(121);
        y.offer(0, 0);
        Checks.due("23: the loan", y.offer(0, 500), 500 - 25 - 554);
        Pledgehouse z = house(121);
        z.offer(0, 0);
        z.renew(0, 4, 100);
        Checks.due("23: kept in a renewal", z.ticketOf(0, 9), 1);
        z.pass(120);
        Checks.noState("23: renewed, not overdue", () -> z.offer(0, 900));
        z.pass(1);
        Checks.due("23: also ahead of a renewal", z.offer(0, 399), Integer.MIN_VALUE);
        Checks.due("23: the loan of now", z.offer(0, 400), 400 - 20 - 400 - 6 * 4 - 3 * 6);
    }

    private static void promise23Judgement() {
        Pledgehouse x = new Pledgehouse();
        x.deposit(5000);
        x.bias(1, 10);
        x.thing(Pledgehouse.RING, 5, 1000);
        x.thing(Pledgehouse.RING, 5, 500);
        x.pledge(4, 0, 1, 0, 500, false);
        x.pledge(4, 1, 1, 0, 200, false);
        x.bias(1, -20);
        x.fashion(Pledgehouse.RING, 50);
        x.pass(121);
        x.offer(0, 900);
        Checks.due("23: less the value at the pledge", x.expertOf(1, 2), 900 - 1100);
        x.offer(1, 1000);
        Checks.due("23: summed up", x.expertOf(1, 2), 900 - 1100 + 1000 - 550);
        Checks.due("23: other experts", x.expertOf(0, 2), 0);
    }

    private static void promise24Claim() {
        Pledgehouse x = house(121);
        Checks.noIndex("24: ticket -1", () -> x.claim(-1, 4));
        Checks.noIndex("24: ticket 1", () -> x.claim(1, 4));
        Checks.noIndex("24: person -1", () -> x.claim(0, -1));
        Checks.noIndex("24: person 10", () -> x.claim(0, 10));
        Checks.noState("24: OPEN", () -> x.claim(0, 4));
        x.offer(0, 900);
        Checks.noState("24: who does not hold it", () -> x.claim(0, 5));
        x.give(0, 5);
        Checks.noState("24: who held it", () -> x.claim(0, 4));
        x.notice(0, 6);
        Checks.noState("24: barred by a notice", () -> x.claim(0, 5));
        x.show(0);
        x.police(0);
        Checks.due("24: a list does not bar it", x.claim(0, 5), 301);
        Checks.due("24: kept no more", x.ticketOf(0, 7), 0);
        Checks.due("24: money", x.money(0), 5000 - 500 + 900 - 301);
        Checks.due("24: kept in all", x.money(1), 0);
        Checks.due("24: anew", x.moneyAnew(), 5099);
        Checks.noState("24: again", () -> x.claim(0, 5));
        Pledgehouse y = house(121);
        y.redeem(0, 4);
        Checks.noState("24: REDEEMED", () -> y.claim(0, 4));
        Pledgehouse z = house(121);
        Checks.due("24: the least", z.offer(0, 584), 1);
        Checks.due("24: the least", z.claim(0, 4), 1);
    }

    private static void promise24Gift() {
        Pledgehouse x = house(121);
        x.offer(0, 900);
        x.pass(400);
        x.pass(400);
        x.pass(200);
        Checks.due("24: for 1000 days", x.ticketOf(0, 7), 301);
        Checks.due("24: no gift", x.money(3), 0);
        x.pass(1);
        Checks.due("24: to the gift", x.money(3), 301);
        Checks.due("24: from the money", x.money(0), 5400 - 301);
        Checks.due("24: kept no more", x.money(1), 0);
        Checks.due("24: free stays", x.money(2), 5099);
        Checks.due("24: anew", x.moneyAnew(), 5099);
        Checks.noState("24: too late", () -> x.claim(0, 4));
        Pledgehouse y = house(121);
        y.offer(0, 900);
        y.pass(400);
        y.pass(400);
        y.pass(200);
        Checks.due("24: the last day", y.claim(0, 4), 301);
        y.pass(1);
        Checks.due("24: claimed is not given", y.money(3), 0);
        Pledgehouse z = house(121);
        z.offer(0, 584);
        z.notice(0, 5);
        z.pass(400);
        z.pass(400);
        z.pass(180);
        z.notice(0, 6);
        z.pass(21);
        Checks.due("24: a surplus of 1, barred", z.money(3), 1);
        Checks.due("24: kept no more", z.ticketOf(0, 7), 0);
    }

    private static void promise25Deposit() {
        Pledgehouse x = new Pledgehouse();
        Checks.noArgument("25: 0", () -> x.deposit(0));
        Checks.noArgument("25: -1", () -> x.deposit(-1));
        Checks.noArgument("25: 100001", () -> x.deposit(100001));
        Checks.due("25: 1", x.deposit(1), 1);
        Checks.due("25: most", x.deposit(100000), 100001);
        Checks.due("25: money", x.money(0), 100001);
        Checks.due("25: anew", x.moneyAnew(), 100001);
        // beyond the 512th call nothing is promised, but nothing else may be thrown
        Pledgehouse y = new Pledgehouse();
        for (int i = 0; i < 1000; i++) {
            y.deposit(100000);
        }
        Checks.noState("25: too much", () -> y.deposit(1));
        Checks.noArgument("25: argument ahead of state", () -> y.deposit(100001));
        Checks.due("25: as much as may be", y.money(0), 100000000);
    }

    private static void promise26Withdraw() {
        Pledgehouse x = house(121);
        Checks.noArgument("26: 0", () -> x.withdraw(0));
        Checks.noArgument("26: 100001", () -> x.withdraw(100001));
        Checks.noState("26: too much", () -> x.withdraw(4501));
        x.deposit(100000);
        Checks.due("26: most", x.withdraw(100000), 4500);
        Checks.due("26: one", x.withdraw(1), 4499);
        x.offer(0, 900);
        Checks.noState("26: what is kept is not free", () -> x.withdraw(5099));
        Checks.noArgument("26: argument ahead of state", () -> x.withdraw(100001));
        Checks.due("26: what is free", x.withdraw(5098), 301);
        Checks.due("26: free", x.money(2), 0);
        Checks.noState("26: nothing is free", () -> x.withdraw(1));
        Checks.noState("26: nor for loans", () -> x.pledge(0, 0, 0, 0, 1, true));
        Checks.due("26: kept is paid out", x.claim(0, 4), 301);
        Checks.due("26: anew", x.moneyAnew(), 0);
    }
}
