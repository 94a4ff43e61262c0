/** The boundaries that the document names for what is asked, and for interest: promises 27 to 34. */
public final class AskedEdgesTest {
    public static void main(String[] args) {
        day();
        thingOf();
        ticketOf();
        freeDays();
        fortnights();
        steps();
        ratesInForce();
        roundedUp();
        greatestInterest();
        interestAnew();
        expertOf();
        bears();
        money();
        moneyAnew();
        manyCalls();
        Checks.end("AskedEdgesTest");
    }

    private static final int[] NO_TICKETS = {-1, 9, Integer.MIN_VALUE, Integer.MAX_VALUE};
    private static final int[] NO_THINGS = {-1, 11, Integer.MIN_VALUE, Integer.MAX_VALUE};

    /** A thing of 10000, of which 1000 were lent on the day 0; 10, 15 and 20 for each fortnight. */
    private static Story house() {
        return new Story().tell(x -> x.deposit(5000)).thing(0, 5, 10000).pledge(4, 0, 1, 0, 1000, false);
    }

    /** Interest, in both ways. */
    private static void interest(String what, Story house, int due) {
        house.due(what, due, x -> x.ticketOf(0, 3), due, x -> x.interestAnew(0));
    }

    private static void day() {
        String days = Document.says(27, "Days are counted from 0, at most 5000.");
        new Story().due(days, 0, x -> x.day());
        Story late = new Story().pass(4999);
        late.due(days, 4999, x -> x.day(), 5000, x -> x.pass(1));
        late.due(days, 5000, x -> x.pass(1), 5000, x -> x.day());
        late.refused(days, Story.STATE, x -> x.pass(2));
    }

    private static void thingOf() {
        Story busy = Houses.busy();
        for (int thing : NO_THINGS) {
            busy.refused("28: no thing " + thing, Story.INDEX, x -> x.thingOf(thing, 0));
            busy.refused("28: the thing goes first " + thing, Story.INDEX, x -> x.thingOf(thing, 7));
        }
        busy.range(Document.says(28, "- `what`: 0 its kind"), Story.ARGUMENT, 0, 6, (x, n) -> x.thingOf(3, n), 2, 1);
        busy.due("28: the first", 0, x -> x.thingOf(0, 0), 2, x -> x.thingOf(10, 0));
        String place = Document.says(28, "4 its place in the book, 4 times the branch, and the shelf, together, NONE if it is OUT");
        int[] places = {1, 4, 5, 6, 1, -1, -1, -1, -1, -1, 9};
        String open = Document.says(28, "5 its ticket that is OPEN, NONE");
        int[] tickets = {0, 1, 2, 3, 4, -1, -1, -1, -1, -1, 8};
        String listed = Document.says(28, "6 whether it is listed, 1 or 0");
        for (int i = 0; i < 11; i++) {
            int thing = i;
            busy.due(place + i, places[i], x -> x.thingOf(thing, 4));
            busy.due(open + i, tickets[i], x -> x.thingOf(thing, 5));
            busy.due(listed + i, i == 3 || i >= 9 ? 1 : 0, x -> x.thingOf(thing, 6));
            busy.due("28: STORED or OUT " + i, places[i] >= 0 ? 1 : 0, x -> x.thingOf(thing, 3));
        }
        Story far = new Story().tell(x -> x.deposit(100)).thing(0, 50, 10).thing(0, 50, 10).thing(0, 50, 10)
                .pledge(0, 0, 0, 2, 1, false).pledge(0, 1, 0, 2, 1, false).pledge(0, 2, 0, 2, 1, false);
        far.due(place + " the last one", 11, x -> x.thingOf(2, 4));
        Story first = new Story().tell(x -> x.deposit(100)).thing(Pledgehouse.FUR, 50, 10).pledge(0, 0, 0, 0, 1, false);
        first.due(place + " the first one", 0, x -> x.thingOf(0, 4));
    }

    private static void ticketOf() {
        Story busy = Houses.busy();
        for (int ticket : NO_TICKETS) {
            busy.refused("29: no ticket " + ticket, Story.INDEX, x -> x.ticketOf(ticket, 0));
            busy.refused("29: the ticket goes first " + ticket, Story.INDEX, x -> x.ticketOf(ticket, 10));
        }
        busy.range("29: what", Story.ARGUMENT, 0, 9, (x, n) -> x.ticketOf(5, n), Pledgehouse.SOLD, 0);
        int[][] due = {
            {0, 0, 400, 20, 0, 0, 60, 0, 0, 0},
            {0, 1, 300, 3, 1, 61, 121, 0, 0, 0},
            {0, 2, 200, 10, 2, 0, 60, 0, 1, 0},
            {0, 3, 600, 30, 3, 0, 60, 0, 2, 0},
            {0, 4, 900, 45, 4, 0, 60, 0, 0, 0},
            {2, 5, 300, 0, 5, 0, 60, 160, 0, 0},
            {1, 6, 50, 0, 6, 0, 60, 0, 0, 0},
            {3, 7, 100, 0, 7, 0, 60, 0, 0, 0},
            {0, 10, 250, 15, 8, 0, 60, 0, 3, 0},
        };
        String barred = Document.says(29, "8 whether it is barred, 1 by a notice, 2 by a list, 3 by both");
        for (int i = 0; i < due.length; i++) {
            int ticket = i;
            for (int j = 0; j < 10; j++) {
                int what = j;
                busy.due(j == 8 ? barred + i : "29: of ticket " + i + " " + j, due[i][j], x -> x.ticketOf(ticket, what));
            }
        }
        String closed = Document.says(29, "3 its interest now, 0 if it is not OPEN");
        busy.due(closed, 420, x -> x.redeem(0, 0), 0, x -> x.ticketOf(0, 3));
    }

    private static void freeDays() {
        String free = Document.says(29, "on the days up to 3 behind that on which it began it is 0");
        for (int days = 0; days < 4; days++) {
            interest(free + " on " + days, house().pass(days), 0);
        }
        interest(free + " on 4", house().pass(4), 10);
        house().pass(3).due(free + " redeemed", 1000, x -> x.redeem(0, 4), 5000, x -> x.money(0));
        house().pass(4).due(free + " redeemed", 1010, x -> x.redeem(0, 4), 5010, x -> x.money(0));
        Story again = house().pass(3).tell(x -> x.renew(0, 4, 0));
        interest(free + " renewed, on 3", again.more().pass(3), 0);
        interest(free + " renewed, on 4", again.more().pass(4), 10);
    }

    private static void fortnights() {
        String next = Document.says(29, "the first one on the day on which the ticket began, the next one 14 days behind that, and so on");
        int[] days = {13, 14, 15, 27, 28, 41, 42};
        int[] due = {10, 20, 20, 20, 30, 30, 40};
        for (int i = 0; i < days.length; i++) {
            interest(next + " on " + days[i], house().pass(days[i]), due[i]);
            Story renewed = house().pass(9).tell(x -> x.renew(0, 4, 0)).pass(days[i]);
            interest(next + " renewed, on " + days[i], renewed, due[i]);
        }
    }

    private static void steps() {
        String of = Document.says(29, "The rates are of the steps 0, for the first 6 fortnights, 1, for the next 12, and 2, for others");
        int[] days = {70, 83, 84, 97, 98, 238, 251, 252, 265, 266};
        int[] due = {60, 60, 75, 75, 90, 240, 240, 260, 260, 280};
        for (int i = 0; i < days.length; i++) {
            interest(of + " on " + days[i], house().pass(days[i]), due[i]);
        }
        Story other = house().tell(x -> x.rate(1, 0)).tell(x -> x.rate(2, 100));
        interest(of + " the last of 0", other.more().pass(83), 60);
        interest(of + " the first of 1", other.more().pass(84), 60);
        interest(of + " the last of 1", other.more().pass(251), 60);
        interest(of + " the first of 2", other.more().pass(252), 160);
        Story renewed = house().pass(252).tell(x -> x.renew(0, 4, 0)).pass(4);
        interest(of + " renewed", renewed, 10);
    }

    private static void ratesInForce() {
        String end = Document.says(29, "which was in force at the end of the day on which the fortnight began, or, on that day, by now");
        Story eve = house().pass(13);
        interest(end + " told the day before", eve.more().tell(x -> x.rate(0, 50)).pass(1), 60);
        Story on = eve.more().pass(1);
        interest(end + " by now", on, 20);
        interest(end + " told on the day", on.more().tell(x -> x.rate(0, 50)), 60);
        interest(end + " told twice on it", on.more().tell(x -> x.rate(0, 50)).tell(x -> x.rate(0, 7)), 17);
        interest(end + " told twice, later", on.more().tell(x -> x.rate(0, 50)).tell(x -> x.rate(0, 7)).pass(5), 17);
        interest(end + " told the day behind", on.more().pass(1).tell(x -> x.rate(0, 50)), 20);
        interest(end + " told the day behind, for the next",
                on.more().pass(1).tell(x -> x.rate(0, 50)).pass(13), 70);
        interest(end + " another step", on.more().tell(x -> x.rate(1, 50)).tell(x -> x.rate(2, 60)), 20);
        Story first = house().tell(x -> x.rate(0, 30));
        interest(end + " on the day of the pledge, behind it", first.more().pass(4), 30);
        Story renewed = house().pass(9).tell(x -> x.renew(0, 4, 0)).tell(x -> x.rate(0, 30)).pass(4);
        interest(end + " on the day of the renewal, behind it", renewed, 30);
        on.more().tell(x -> x.rate(0, 50)).due(end + " paid so", 60, x -> x.renew(0, 4, 0), 5000 - 940, x -> x.money(0));
    }

    private static void roundedUp() {
        String up = Document.says(29, "the loan times the rate, in thousandths, divided by 1000, rounded up");
        int[] loans = {1, 99, 100, 101, 199, 200, 201};
        int[] due = {1, 1, 1, 2, 2, 2, 3};
        for (int i = 0; i < loans.length; i++) {
            int loan = loans[i];
            Story some = new Story().tell(x -> x.deposit(5000)).thing(0, 5, 1000).pledge(4, 0, 1, 0, loan, false);
            interest(up + " of " + loan, some.more().pass(4), due[i]);
            interest(up + " of " + loan + ", each by itself", some.more().pass(28), 3 * due[i]);
            interest(up + " of " + loan + ", of nothing", some.more().tell(x -> x.rate(0, 0)).pass(28), 0);
            interest(up + " of " + loan + ", of the least", some.more().tell(x -> x.rate(0, 1)).pass(4), 1);
        }
    }

    /** The greatest loan, at the greatest rates, for all days. */
    private static void greatestInterest() {
        Story most = new Story().tell(x -> x.deposit(50000)).tell(x -> x.fashion(0, 200)).tell(x -> x.bias(1, 20))
                .tell(Story.charter(0, 90, 100000)).thing(0, 5, 10000).pledge(4, 0, 1, 0, 21600, false)
                .tell(x -> x.rate(0, 100)).tell(x -> x.rate(1, 100)).tell(x -> x.rate(2, 100)).pass(5000);
        // the last fortnight, the 358th, begins on the day 4998
        interest("29: the most", most, 358 * 2160);
        most.due("11: the most", 358 * 2160 + 21600, x -> x.redeem(0, 4), 50000 + 358 * 2160, x -> x.moneyAnew());
        most.due("23: the most is charged", Integer.MIN_VALUE, x -> x.offer(0, 100000),
                100000 - 5000 - 21600 - 358 * 2160, x -> x.offer(0, 100000));
        Story free = most.more().tell(x -> x.amnesty(0, 4997));
        interest("9: all but the last", free, 2160);
        interest("9: all", free.more().tell(x -> x.amnesty(4998, 4998)), 0);
    }

    private static void interestAnew() {
        Story busy = Houses.busy();
        for (int ticket : NO_TICKETS) {
            busy.refused("30: no ticket " + ticket, Story.INDEX, x -> x.interestAnew(ticket));
        }
        String open = Document.says(30, "Returns the interest; 0 if it is not OPEN.");
        int[] due = {20, 3, 10, 30, 45, 0, 0, 0, 15};
        for (int i = 0; i < due.length; i++) {
            int ticket = i;
            busy.due(open + i, due[i], x -> x.interestAnew(ticket), due[i], x -> x.ticketOf(ticket, 3));
        }
        busy.due(open, 20, x -> x.renew(0, 0, 0), 0, x -> x.interestAnew(0));
    }

    private static void expertOf() {
        Story busy = Houses.busy();
        busy.range("31: expert", Story.INDEX, 0, 3, (x, n) -> x.expertOf(n, 1), 0, 100);
        busy.range(Document.says(31, "- `what`: 0 the bias, 1 what was charged, 2 the judgement"), Story.ARGUMENT, 0, 2,
                (x, n) -> x.expertOf(1, n), 0, 500 - 700);
        busy.refused("31: the expert goes first", Story.INDEX, x -> x.expertOf(4, 3));
        busy.refused("31: the expert goes first", Story.INDEX, x -> x.expertOf(-1, -1));
        busy.due("31: the bias", 10, x -> x.expertOf(2, 0), 0, x -> x.expertOf(2, 1));
    }

    private static void bears() {
        Story busy = Houses.busy();
        busy.range(Document.says(32, "- `branch`: 0 to 2"), Story.INDEX, 0, 2, (x, n) -> x.bears(n, 1), 55, 53);
        busy.range(Document.says(32, "- `shelf`: 0 to 3"), Story.INDEX, 0, 3, (x, n) -> x.bears(1, n), 20, 60);
        busy.refused("32: both", Story.INDEX, x -> x.bears(3, 4));
        String truly = Document.says(32, "shelves bear what truly is on them");
        busy.due(truly + " not what the book says", 55, x -> x.bears(0, 1), 40, x -> x.bears(2, 3));
        busy.due(truly + " counted", 1, x -> x.count(2), 40, x -> x.bears(2, 3));
    }

    private static void money() {
        Story busy = Houses.busy();
        busy.range(Document.says(33, "- `what`: 0 that of the house, 1 what is kept as surplus, 2 what is free, 3 the gift"),
                Story.ARGUMENT, 0, 3, (x, n) -> x.money(n), busy.house().moneyAnew(), 0);
        busy.due("33: kept", 160, x -> x.money(1), busy.house().money(0) - 160, x -> x.money(2));
    }

    private static void moneyAnew() {
        Story busy = Houses.busy();
        // lent 3100, redeemed with 50 and 5, sold for 500, renewed for 15
        busy.due("34: all that moved it", 20000 - 3100 + 55 + 500 + 15, x -> x.moneyAnew(), 17470, x -> x.money(0));
        String moves = Document.says(34, "Loans, claims, withdrawals and the gift take from it; deposits, sales and what is paid for tickets add to it.");
        busy.due(moves, 420, x -> x.redeem(0, 0), 17890, x -> x.moneyAnew());
        busy.due(moves, 21, x -> x.renew(0, 0, 1), 17491, x -> x.moneyAnew());
        busy.due(moves, 160, x -> x.claim(5, 5), 17310, x -> x.moneyAnew());
        busy.due(moves, -21, x -> x.offer(0, 420), 17890, x -> x.moneyAnew());
        busy.due(moves, 17471, x -> x.deposit(1), 17471, x -> x.moneyAnew());
        busy.due(moves, 17469, x -> x.withdraw(1), 17469, x -> x.moneyAnew());
        busy.due(moves, 9, x -> x.pledge(9, 8, 0, 0, 5, false), 17465, x -> x.moneyAnew());
        busy.due(moves, 3, x -> x.court(3, true), 17470, x -> x.moneyAnew());
        busy.more().pass(995).due(moves, 17470, x -> x.moneyAnew(), 0, x -> x.money(3));
        busy.more().pass(996).due(moves, 17310, x -> x.moneyAnew(), 160, x -> x.money(3));
    }

    /** The 512th call still answers; beyond it answers are free, but nothing else may be thrown. */
    private static void manyCalls() {
        Pledgehouse x = new Pledgehouse();
        for (int i = 0; i < 511; i++) {
            x.deposit(100000);
        }
        String most = Document.says(34, "An object is used for at most 512 calls after it has been made");
        Checks.due(most, x.moneyAnew(), 51100000);
        for (int i = 0; i < 2000; i++) {
            long got = i % 2 == 0 ? Story.answer(x, y -> y.withdraw(100000)) : Story.answer(x, y -> y.moneyAnew());
            Checks.due(most + " beyond", got >= 0 || got == Story.STATE ? 1 : 0, 1);
        }
    }
}
