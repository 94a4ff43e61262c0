/** The boundaries that the document names for sales and money: promises 23 to 26. */
public final class MoneyEdgesTest {
    public static void main(String[] args) {
        offerArguments();
        offerStates();
        overdue();
        reserves();
        reservesAndRenewals();
        surplusOrCharged();
        fees();
        judgements();
        claim();
        claimDays();
        gifts();
        deposit();
        greatestMoney();
        withdraw();
        Checks.end("MoneyEdgesTest");
    }

    private static final int[] NO_TICKETS = {-1, 9, Integer.MIN_VALUE, Integer.MAX_VALUE};

    /** A ring of 1000, pledged for 500 by the person 4, as many days later: on the day 121 it owes 54. */
    private static Story house(int days) {
        return new Story().tell(x -> x.deposit(5000)).thing(Pledgehouse.RING, 5, 1000)
                .pledge(4, 0, 1, 0, 500, false).pass(days);
    }

    private static void offerArguments() {
        Story busy = Houses.busy();
        for (int ticket : NO_TICKETS) {
            busy.refused("23: no ticket " + ticket, Story.INDEX, x -> x.offer(ticket, 500));
            busy.refused("23: the ticket goes first " + ticket, Story.INDEX, x -> x.offer(ticket, -1));
        }
        // the loan and interest are 420, and the greatest price has a fee of 5000
        busy.range(Document.says(23, "- `price`: 0 to 100000"), Story.ARGUMENT, 0, 100000,
                (x, n) -> x.offer(0, n), Integer.MIN_VALUE, 100000 - 5000 - 420);
        busy.refused("23: the price goes ahead of the state", Story.ARGUMENT, x -> x.offer(5, -1));
        busy.refused("23: the price goes ahead of the state", Story.ARGUMENT, x -> x.offer(1, 100001));
    }

    private static void offerStates() {
        Story busy = Houses.busy();
        String can = Document.says(23,
                "A ticket that is OPEN, overdue and not barred, and whose thing can be found, can be offered at a price");
        busy.due(can, 500 - 25 - 420, x -> x.offer(0, 500), Pledgehouse.SOLD, x -> x.ticketOf(0, 0));
        for (int price : new int[] {0, 5000}) {
            busy.refused(can + " not overdue", Story.STATE, x -> x.offer(1, price));
            busy.refused(can + " barred by a notice", Story.STATE, x -> x.offer(2, price));
            busy.refused(can + " barred by a list", Story.STATE, x -> x.offer(3, price));
            busy.refused(can + " cannot be found", Story.STATE, x -> x.offer(4, price));
            busy.refused(can + " SOLD", Story.STATE, x -> x.offer(5, price));
            busy.refused(can + " REDEEMED", Story.STATE, x -> x.offer(6, price));
            busy.refused(can + " SEIZED", Story.STATE, x -> x.offer(7, price));
            busy.refused(can + " barred by both", Story.STATE, x -> x.offer(8, price));
        }
        busy.due(can + " shown", 6, x -> x.show(2), 1000 - 50 - 210, x -> x.offer(2, 1000));
        busy.due(can + " listed no more", -1, x -> x.court(3, false), 1000 - 50 - 630, x -> x.offer(3, 1000));
        busy.due(can + " strayed back", 0, Story.stray(4, 0, 1), 1000 - 50 - 945, x -> x.offer(4, 1000));
        busy.due(can + " counted", 1, x -> x.count(2), 1000 - 50 - 945, x -> x.offer(4, 1000));
        busy.due(can + " one of two bars", 9, x -> x.show(8), Story.STATE, x -> x.offer(8, 1000));
        Story lost = Houses.busy().pass(23);
        lost.due(can + " a notice has ended", 1000 - 50 - 200 - 6 * 2 - 3, x -> x.offer(2, 1000));
        lost.due(can + " and who told it has the surplus", 735, x -> x.offer(2, 1000), 735, x -> x.claim(2, 6));
    }

    private static void overdue() {
        String behind = Document.says(23, "it is overdue behind the day on which it began and the term, together");
        house(120).refused(behind + " the last day", Story.STATE, x -> x.offer(0, 1000));
        house(120).due(behind + " the last day", 120, x -> x.ticketOf(0, 6), 554, x -> x.redeem(0, 4));
        house(121).due(behind, 1000 - 50 - 554, x -> x.offer(0, 1000));
        house(121).due(behind + " and can be redeemed", 554, x -> x.redeem(0, 4), 0, x -> x.thingOf(0, 3));
        house(121).due(behind + " and renewed", 54, x -> x.renew(0, 4, 0), Story.STATE, x -> x.offer(0, 1000));
        Story then = new Story().tell(x -> x.deposit(5000)).tell(x -> x.term(14)).thing(0, 5, 1000)
                .pledge(4, 0, 1, 0, 500, false).tell(x -> x.term(1000));
        String told = Document.says(23, "Its term are as many days as told then, 120 at first");
        then.more().pass(14).refused(told, Story.STATE, x -> x.offer(0, 1000));
        then.more().pass(15).due(told, 1000 - 50 - 510, x -> x.offer(0, 1000));
    }

    private static void reserves() {
        Story some = house(121);
        String first = Document.says(23, "the reserve is loan and interest, the loan alone if it was offered once in vain");
        some.due(first, Integer.MIN_VALUE, x -> x.offer(0, 553), 1, x -> x.ticketOf(0, 9));
        some.due(first, Integer.MIN_VALUE, x -> x.offer(0, 553), Pledgehouse.OPEN, x -> x.ticketOf(0, 0));
        some.due(first, 554 - 27 - 554, x -> x.offer(0, 554), 0, x -> x.ticketOf(0, 9));
        Story once = house(121).tell(x -> x.offer(0, 0));
        once.due(first + " once", Integer.MIN_VALUE, x -> x.offer(0, 499), 2, x -> x.ticketOf(0, 9));
        once.due(first + " once", 500 - 25 - 554, x -> x.offer(0, 500), 1, x -> x.ticketOf(0, 9));
        String twice = Document.says(23, "nothing if twice or more, also ahead of a renewal");
        Story two = once.more().tell(x -> x.offer(0, 499));
        two.due(twice, -554, x -> x.offer(0, 0), 2, x -> x.ticketOf(0, 9));
        two.due(twice, -553, x -> x.offer(0, 1), Pledgehouse.SOLD, x -> x.ticketOf(0, 0));
        String vain = Document.says(23, "Below the reserve it is offered in vain.");
        some.due(vain, Integer.MIN_VALUE, x -> x.offer(0, 0), 4500, x -> x.money(0));
        some.due(vain, Integer.MIN_VALUE, x -> x.offer(0, 0), 0, x -> x.expertOf(1, 1));
        some.due(vain, Integer.MIN_VALUE, x -> x.offer(0, 0), 0, x -> x.expertOf(1, 2));
        some.due(vain, Integer.MIN_VALUE, x -> x.offer(0, 0), Pledgehouse.STORED, x -> x.thingOf(0, 3));
        some.due(vain, Integer.MIN_VALUE, x -> x.offer(0, 0), 554, x -> x.redeem(0, 4));
        Story refused = house(120);
        refused.due(vain + " a refused one is not", Story.STATE, x -> x.offer(0, 0), 0, x -> x.ticketOf(0, 9));
    }

    private static void reservesAndRenewals() {
        String ahead = Document.says(23, "also ahead of a renewal");
        // renewed for 400 on the day 121: on the day 242 it owes 42
        Story once = house(121).tell(x -> x.offer(0, 0)).tell(x -> x.renew(0, 4, 100)).pass(121);
        once.due(ahead + " once", Integer.MIN_VALUE, x -> x.offer(0, 399), 2, x -> x.ticketOf(0, 9));
        once.due(ahead + " once", 400 - 20 - 442, x -> x.offer(0, 400));
        Story twice = house(121).tell(x -> x.offer(0, 0)).tell(x -> x.offer(0, 0)).tell(x -> x.renew(0, 4, 100));
        twice.refused(ahead + " not overdue", Story.STATE, x -> x.offer(0, 0));
        twice.more().pass(121).due(ahead + " twice", -442, x -> x.offer(0, 0));
        Story halves = house(121).tell(x -> x.offer(0, 0)).tell(x -> x.renew(0, 4, 100)).pass(121)
                .tell(x -> x.offer(0, 0));
        halves.due(ahead + " and behind it", -442, x -> x.offer(0, 0), 2, x -> x.ticketOf(0, 9));
        Story other = house(121).tell(x -> x.offer(0, 0)).tell(x -> x.redeem(0, 4)).pledge(4, 0, 1, 0, 500, false)
                .pass(121);
        other.due(ahead + " but not of another ticket", 0, x -> x.ticketOf(1, 9),
                Integer.MIN_VALUE, x -> x.offer(1, 553));
    }

    private static void surplusOrCharged() {
        String above = Document.says(23, "What the price is above loan, interest and fee is a surplus");
        Story some = house(121);
        // the fee of 582, 583 and 584 is 29
        some.due(above + " one below", -1, x -> x.offer(0, 582), 1, x -> x.expertOf(1, 1));
        some.due(above + " one below", -1, x -> x.offer(0, 582), 0, x -> x.money(1));
        some.due(above + " neither", 0, x -> x.offer(0, 583), 0, x -> x.expertOf(1, 1));
        some.due(above + " neither", 0, x -> x.offer(0, 583), 0, x -> x.money(1));
        some.due(above + " neither", 0, x -> x.offer(0, 583), Story.STATE, x -> x.claim(0, 4));
        some.due(above + " one above", 1, x -> x.offer(0, 584), 0, x -> x.expertOf(1, 1));
        some.due(above + " one above", 1, x -> x.offer(0, 584), 1, x -> x.money(1));
        some.due(above + " one above", 1, x -> x.offer(0, 584), 1, x -> x.claim(0, 4));
        for (int price : new int[] {582, 583, 584}) {
            some.more().tell(x -> x.offer(0, price)).due(Document.says(23, "the house gets the price"), 4500 + price,
                    x -> x.money(0), 4500 + price, x -> x.moneyAnew());
        }
        Story sold = house(121).tell(x -> x.offer(0, 584));
        sold.due(Document.says(23, "Otherwise it is SOLD: the thing is OUT"), Pledgehouse.SOLD, x -> x.ticketOf(0, 0),
                Pledgehouse.OUT, x -> x.thingOf(0, 3));
        sold.refused("23: SOLD", Story.STATE, x -> x.offer(0, 584));
    }

    private static void fees() {
        String fee = Document.says(23, "5 hundredths of that are its fee");
        Story free = new Story().tell(x -> x.deposit(100)).tell(x -> x.term(14)).tell(x -> x.rate(0, 0))
                .thing(0, 5, 100).pledge(4, 0, 1, 0, 1, false).pass(15);
        free.due(fee + " of 1", 0, x -> x.offer(0, 1), 0, x -> x.expertOf(1, 1));
        free.due(fee + " of 19", 18, x -> x.offer(0, 19), 18, x -> x.ticketOf(0, 7));
        free.due(fee + " of 20", 18, x -> x.offer(0, 20), 18, x -> x.money(1));
        free.due(fee + " of 39", 37, x -> x.offer(0, 39));
        free.due(fee + " of 40", 37, x -> x.offer(0, 40));
        free.due(fee + " of 99999", 99999 - 4999 - 1, x -> x.offer(0, 99999));
        free.due(fee + " of 100000", 100000 - 5000 - 1, x -> x.offer(0, 100000), 100099, x -> x.money(0));
    }

    private static void judgements() {
        String judged = Document.says(23,
                "The expert is judged by the price less the value by the expert, as it was at the pledge, summed up.");
        Story some = new Story().tell(x -> x.deposit(5000)).tell(x -> x.bias(1, -20))
                .thing(Pledgehouse.CLOCK, 5, 1000).thing(Pledgehouse.CLOCK, 5, 501)
                .pledge(4, 0, 1, 0, 100, false).pledge(4, 1, 1, 0, 100, false)
                .tell(x -> x.bias(1, 20)).tell(x -> x.fashion(Pledgehouse.CLOCK, 10)).pass(121);
        // the values were 800 and, of 400.8, 400
        some.more().tell(x -> x.offer(0, 799)).due(judged + " below", -1, x -> x.expertOf(1, 2));
        some.more().tell(x -> x.offer(0, 800)).due(judged + " the same", 0, x -> x.expertOf(1, 2));
        Story above = some.more().tell(x -> x.offer(0, 801));
        above.due(judged + " above", 1, x -> x.expertOf(1, 2), 0, x -> x.expertOf(0, 2));
        above.more().tell(x -> x.offer(1, 400)).due(judged + " two", 1, x -> x.expertOf(1, 2));
        above.more().tell(x -> x.offer(1, 399)).due(judged + " two", 0, x -> x.expertOf(1, 2));
    }

    private static void claim() {
        Story busy = Houses.busy();
        for (int ticket : NO_TICKETS) {
            busy.refused("24: no ticket " + ticket, Story.INDEX, x -> x.claim(ticket, 5));
        }
        // 500 less 25, 300 and 15
        busy.range("24: person", Story.INDEX, 0, 9, (x, n) -> x.claim(5, n), Story.STATE, Story.STATE);
        String state = Document.says(24,
                "if none is kept for it, it is barred by a notice, or the person does not hold it");
        busy.due(state + " kept", 160, x -> x.claim(5, 5), 0, x -> x.ticketOf(5, 7));
        busy.due(state + " claimed", 160, x -> x.claim(5, 5), Story.STATE, x -> x.claim(5, 5));
        for (int ticket : new int[] {0, 1, 2, 3, 4, 6, 7, 8}) {
            busy.refused(state + " none of " + ticket, Story.STATE, x -> x.claim(ticket, ticket));
        }
        busy.refused(state + " who does not hold it", Story.STATE, x -> x.claim(5, 4));
        Story lost = Houses.busy().tell(Story.notice(5, 3));
        lost.refused(state + " barred by a notice", Story.STATE, x -> x.claim(5, 5));
        lost.refused(state + " who told the notice", Story.STATE, x -> x.claim(5, 3));
        lost.due(state + " shown", 3, x -> x.show(5), 160, x -> x.claim(5, 5));
        Story given = Houses.busy().tell(x -> x.give(5, 2));
        given.refused(state + " who held it", Story.STATE, x -> x.claim(5, 5));
        given.due(state + " who holds it", 160, x -> x.claim(5, 2), 0, x -> x.money(1));
        Story listed = Houses.busy().tell(x -> x.police(5));
        listed.due(state + " a list is no notice", 160, x -> x.claim(5, 5), 1, x -> x.thingOf(5, 6));
        Story anew = Houses.busy().pledge(9, 5, 0, 0, 1, false);
        anew.due(state + " pledged anew", 160, x -> x.claim(5, 5), Pledgehouse.OPEN, x -> x.ticketOf(9, 0));
        Story claimed = Houses.busy().tell(x -> x.claim(5, 5));
        claimed.refused(state + " claimed", Story.STATE, x -> x.claim(5, 5));
        busy.due("24: it is paid out", 160, x -> x.claim(5, 5), claimed.house().moneyAnew(), x -> x.money(0));
        int free = busy.house().money(2);
        Story poor = Houses.busy().tell(x -> x.withdraw(free));
        poor.due("24: what is kept is there", 160, x -> x.claim(5, 5), 0, x -> x.money(0));
    }

    private static void claimDays() {
        String days = Document.says(24, "which is kept for the holder, and can be claimed for 1000 days");
        // sold on the day 121
        Story last = house(121).tell(x -> x.offer(0, 900)).pass(1000);
        last.due(days + " 1000", 301, x -> x.ticketOf(0, 7), 301, x -> x.claim(0, 4));
        last.due(days + " 1000", 0, x -> x.money(3), 301, x -> x.money(1));
        last.due(days + " claimed on the last day", 301, x -> x.claim(0, 4), 1122, x -> x.pass(1));
        Story over = house(121).tell(x -> x.offer(0, 900)).pass(1001);
        over.refused(days + " 1001", Story.STATE, x -> x.claim(0, 4));
        over.due(days + " 1001", 0, x -> x.ticketOf(0, 7), 0, x -> x.money(1));
        Story claimed = last.more().tell(x -> x.claim(0, 4)).pass(1);
        claimed.due(days + " no gift", 0, x -> x.money(3), 5099, x -> x.money(0));
        Story lost = house(121).tell(x -> x.offer(0, 900)).pass(972).tell(Story.notice(0, 7));
        lost.more().pass(27).refused(days + " a notice of 27 days", Story.STATE, x -> x.claim(0, 7));
        lost.more().pass(28).due(days + " a notice of 28 days", 301, x -> x.claim(0, 7));
        lost.more().pass(29).due(days + " too late", Story.STATE, x -> x.claim(0, 7), 301, x -> x.money(3));
    }

    private static void gifts() {
        String gift = Document.says(22, "goes from the house's money to the gift on the day that is 1001 behind that of the sale");
        Story two = new Story().tell(x -> x.deposit(5000))
                .thing(0, 5, 1000).thing(0, 5, 1000).thing(0, 5, 1000)
                .pledge(4, 0, 1, 0, 500, false).pledge(5, 1, 1, 0, 500, false).pledge(6, 2, 1, 0, 500, false).pass(121)
                .tell(x -> x.offer(0, 900)).tell(x -> x.offer(2, 700)).tell(x -> x.pass(1)).tell(x -> x.offer(1, 800));
        Story last = two.more().pass(999);
        last.due(gift + " 1000", 0, x -> x.money(3), 3500 + 900 + 700 + 800, x -> x.money(0));
        last.due(gift + " 1001", 1122, x -> x.pass(1), 301 + 111, x -> x.money(3));
        last.due(gift + " of all", 1123, x -> x.pass(2), 301 + 111 + 206, x -> x.money(3));
        Story one = two.more().pass(1000);
        one.due(gift + " 1001", 5900 - 412, x -> x.money(0), 5900 - 412, x -> x.moneyAnew());
        one.due(gift + " what is kept still", 206, x -> x.money(1), 5900 - 412 - 206, x -> x.money(2));
        one.due(gift + " what is kept still", 206, x -> x.claim(1, 5), 412, x -> x.money(3));
        Story least = house(121).tell(x -> x.offer(0, 584)).pass(1000);
        least.due(gift + " a surplus of 1", 1122, x -> x.pass(1), 1, x -> x.money(3));
        Story early = two.more().tell(x -> x.claim(0, 4)).pass(1001);
        early.due(gift + " but what was claimed", 111 + 206, x -> x.money(3), 5900 - 618, x -> x.money(0));
    }

    private static void deposit() {
        Story busy = Houses.busy();
        int money = busy.house().money(0);
        busy.range(Document.says(25, "- `amount`: 1 to 100000"), Story.ARGUMENT, 1, 100000,
                (x, n) -> x.deposit(n), money + 1, money + 100000);
        busy.due("25: all of it is free", money + 1, x -> x.deposit(1), money + 1 - 160, x -> x.money(2));
        Story none = new Story();
        none.due("25: the first", 1, x -> x.deposit(1), 1, x -> x.moneyAnew());
        none.refused("25: nothing", Story.ARGUMENT, x -> x.deposit(0));
    }

    /** In 512 calls the house cannot get so much, so this one is used for longer; it is to refuse all the same. */
    private static void greatestMoney() {
        Pledgehouse x = new Pledgehouse();
        for (int i = 0; i < 999; i++) {
            x.deposit(100000);
        }
        String most = Document.says(25, "Throws `IllegalStateException` if it would have more than 100000000");
        Checks.due(most + " just not", x.deposit(99999), 99999999);
        Checks.noState(most, () -> x.deposit(2));
        Checks.due(most + " changes nothing", x.money(0), 99999999);
        Checks.due(most + " just not", x.deposit(1), 100000000);
        Checks.noState(most, () -> x.deposit(1));
        Checks.noState(most, () -> x.deposit(100000));
        Checks.noArgument(most + " the argument goes first", () -> x.deposit(100001));
        Checks.due(most + " changes nothing", x.moneyAnew(), 100000000);
        Checks.due(most + " and then again", x.withdraw(1), 99999999);
        Checks.due(most + " and then again", x.deposit(1), 100000000);
    }

    private static void withdraw() {
        Story rich = Houses.busy().tell(x -> x.deposit(100000));
        int money = rich.house().money(0);
        rich.range(Document.says(26, "- `amount`: 1 to 100000"), Story.ARGUMENT, 1, 100000,
                (x, n) -> x.withdraw(n), money - 1, money - 100000);
        Story busy = Houses.busy();
        int free = busy.house().money(2);
        String much = Document.says(26, "Throws `IllegalStateException` if so much is not free");
        busy.due(much + " all", 160, x -> x.withdraw(free), 0, x -> x.money(2));
        busy.refused(much + " one more", Story.STATE, x -> x.withdraw(free + 1));
        busy.refused(much + " with what is kept", Story.STATE, x -> x.withdraw(free + 160));
        busy.refused(much + " the argument goes first", Story.ARGUMENT, x -> x.withdraw(100001));
        Story nothing = busy.more().tell(x -> x.withdraw(free));
        nothing.refused(much + " nothing", Story.STATE, x -> x.withdraw(1));
        nothing.due(much + " what is kept stays", 160, x -> x.money(1), 160, x -> x.moneyAnew());
        Story none = new Story();
        none.refused(much + " of none", Story.STATE, x -> x.withdraw(1));
        none.tell(x -> x.deposit(1)).due(much + " of 1", 0, x -> x.withdraw(1), 0, x -> x.money(0));
        none.refused(much + " 2 of 1", Story.STATE, x -> x.withdraw(2));
    }
}
