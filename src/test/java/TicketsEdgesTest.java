/** The boundaries that the document names for tickets: promises 10 to 17. */
public final class TicketsEdgesTest {
    public static void main(String[] args) {
        pledgeArguments();
        pledgeStates();
        loanAndShare();
        loanAndMoney();
        loanAndCap();
        loanAndShelves();
        mostTickets();
        redeem();
        redeemWhatCanBe();
        renew();
        renewLess();
        give();
        notice();
        noticeDays();
        show();
        police();
        court();
        Checks.end("TicketsEdgesTest");
    }

    private static void pledgeArguments() {
        Story busy = Houses.busy();
        busy.range(Document.says(10, "- `person`: 0 to 9"), Story.INDEX, 0, 9,
                (x, n) -> x.pledge(n, 8, 0, 0, 1, true), 9, 9);
        for (int thing : new int[] {-1, 11, Integer.MIN_VALUE, Integer.MAX_VALUE}) {
            busy.refused(Document.says(10, "if there is no such person, thing, expert or branch") + thing, Story.INDEX,
                    x -> x.pledge(0, thing, 0, 0, 1, true));
        }
        busy.range(Document.says(10, "- `expert`: 0 to 3"), Story.INDEX, 0, 3,
                (x, n) -> x.pledge(0, 8, n, 0, 1, true), 9, 9);
        busy.range(Document.says(10, "- `branch`: 0 to 2"), Story.INDEX, 0, 2,
                (x, n) -> x.pledge(0, 8, 0, n, 1, true), 9, 9);
        // no value is so great that 100000 were not too much
        busy.range(Document.says(10, "- `loan`: 1 to 100000"), Story.ARGUMENT, 1, 100000,
                (x, n) -> x.pledge(9, 8, 0, 0, n, true), 9, Story.STATE);
        busy.refused("10: 100000 is too much", Story.STATE, x -> x.pledge(9, 8, 0, 0, 100000, true));
        busy.refused("10: the index goes first", Story.INDEX, x -> x.pledge(10, 8, 0, 0, 0, true));
        busy.refused("10: the index goes first", Story.INDEX, x -> x.pledge(0, 11, 0, 0, 100001, true));
        busy.refused("10: the index goes first", Story.INDEX, x -> x.pledge(0, 0, 4, 0, 0, true));
        busy.refused("10: the index goes first", Story.INDEX, x -> x.pledge(0, 9, 0, 3, 0, true));
        busy.refused("10: the loan goes ahead of the state", Story.ARGUMENT, x -> x.pledge(0, 0, 0, 0, 0, true));
        busy.refused("10: the loan goes ahead of the state", Story.ARGUMENT, x -> x.pledge(0, 9, 0, 0, 100001, true));
    }

    private static void pledgeStates() {
        Story busy = Houses.busy();
        String what = Document.says(10, "Throws `IllegalStateException` if the thing is not OUT, is listed");
        for (int thing : new int[] {0, 1, 2, 3, 4, 10}) {
            busy.refused(what + " STORED " + thing, Story.STATE, x -> x.pledge(9, thing, 0, 1, 1, true));
        }
        busy.refused(what + " OUT and listed", Story.STATE, x -> x.pledge(9, 9, 0, 0, 1, true));
        busy.more().tell(x -> x.court(9, true)).due(what + " listed no more", 9, x -> x.pledge(9, 9, 0, 0, 1, true));
        for (int thing : new int[] {5, 6, 7, 8}) {
            busy.due(what + " OUT " + thing, 9, x -> x.pledge(9, thing, 0, 0, 1, true), 9, x -> x.thingOf(thing, 5));
        }
        Story sold = busy.more().pledge(9, 5, 0, 0, 1, true);
        sold.refused(what + " stored anew", Story.STATE, x -> x.pledge(9, 5, 0, 0, 1, true));
        sold.due("10: the older ticket stays", Pledgehouse.SOLD, x -> x.ticketOf(5, 0));
        sold.due("10: the older ticket's thing", 5, x -> x.ticketOf(5, 1));
    }

    private static void loanAndShare() {
        Story some = new Story().tell(x -> x.deposit(50000)).tell(x -> x.bias(1, -13))
                .thing(Pledgehouse.RING, 1, 1999).thing(Pledgehouse.RING, 1, 10);
        String share = Document.says(10,
                "the loan is at most the share of the class of who pledges of the value by an expert");
        // 1999 by 87 hundredths is 1739.13, and half of 1739 is 869.5
        some.due(share, 0, x -> x.pledge(0, 0, 1, 0, 869, true));
        some.refused(share, Story.STATE, x -> x.pledge(0, 0, 1, 0, 870, true));
        some.due(share + " without bias", 0, x -> x.pledge(0, 0, 0, 0, 999, true));
        some.refused(share + " without bias", Story.STATE, x -> x.pledge(0, 0, 0, 0, 1000, true));
        Story none = some.more().tell(x -> x.fashion(0, 0));
        none.refused(share + " a value of 0", Story.STATE, x -> x.pledge(0, 0, 0, 0, 1, true));
        // 10 by 10 hundredths is 1, and half of that 0
        Story one = some.more().tell(x -> x.fashion(0, 10));
        one.refused(share + " a value of 1", Story.STATE, x -> x.pledge(0, 1, 0, 0, 1, true));
        Story two = some.more().tell(x -> x.fashion(0, 20));
        two.due(share + " a value of 2", 0, x -> x.pledge(0, 1, 0, 0, 1, true));
        two.refused(share + " a value of 2", Story.STATE, x -> x.pledge(0, 1, 0, 0, 2, true));
    }

    private static void loanAndMoney() {
        Story poor = new Story().tell(x -> x.deposit(300)).thing(Pledgehouse.RING, 1, 1000)
                .thing(Pledgehouse.RING, 1, 1000);
        String money = Document.says(10, "is at most the free money of the house");
        poor.due(money, 0, x -> x.pledge(0, 0, 0, 0, 300, true), 0, x -> x.money(0));
        poor.refused(money, Story.STATE, x -> x.pledge(0, 0, 0, 0, 301, true));
        Story empty = poor.more().pledge(0, 0, 0, 0, 300, true);
        empty.refused(money + " nothing", Story.STATE, x -> x.pledge(1, 1, 0, 0, 1, true));
        // the price 700 less 35, 300 and the interest of 9 fortnights: 6 * 3 and 3 * 5
        Story kept = empty.more().pass(121).tell(x -> x.offer(0, 700));
        kept.due(money + " beside a surplus", 332, x -> x.money(1), 368, x -> x.money(2));
        kept.due(money + " beside a surplus", 1, x -> x.pledge(1, 1, 0, 0, 368, true), 0, x -> x.money(2));
        kept.refused(money + " beside a surplus", Story.STATE, x -> x.pledge(1, 1, 0, 0, 369, true));
    }

    private static void loanAndCap() {
        Story some = new Story().tell(x -> x.deposit(50000)).thing(Pledgehouse.RING, 1, 10000)
                .thing(Pledgehouse.RING, 1, 10000).thing(Pledgehouse.RING, 1, 10000);
        String cap = Document.says(10, "and were pledged by that person, with this one, are at most the cap");
        some.due(cap + " one", 0, x -> x.pledge(0, 0, 0, 0, 1000, true));
        some.refused(cap + " one", Story.STATE, x -> x.pledge(0, 0, 0, 0, 1001, true));
        Story two = some.more().pledge(0, 0, 0, 0, 600, false);
        two.due(cap + " two", 1, x -> x.pledge(0, 1, 0, 0, 400, true));
        two.refused(cap + " two", Story.STATE, x -> x.pledge(0, 1, 0, 0, 401, true));
        two.due(cap + " of another person", 1, x -> x.pledge(1, 1, 0, 0, 1000, true));
        Story given = two.more().tell(x -> x.give(0, 5));
        given.refused(cap + " passed on", Story.STATE, x -> x.pledge(0, 1, 0, 0, 401, true));
        given.due(cap + " who holds it", 1, x -> x.pledge(5, 1, 0, 0, 1000, true));
        Story lost = two.more().tell(Story.notice(0, 5)).pass(28);
        lost.refused(cap + " lost", Story.STATE, x -> x.pledge(0, 1, 0, 0, 401, true));
        lost.due(cap + " lost", 1, x -> x.pledge(0, 1, 0, 0, 400, true));
        Story closed = two.more().tell(x -> x.redeem(0, 0));
        closed.due(cap + " REDEEMED", 1, x -> x.pledge(0, 1, 0, 0, 1000, true));
        closed.refused(cap + " REDEEMED", Story.STATE, x -> x.pledge(0, 1, 0, 0, 1001, true));
        Story sold = two.more().pass(121).tell(x -> x.offer(0, 9000));
        sold.due(cap + " SOLD", 1, x -> x.pledge(0, 1, 0, 0, 1000, true));
        Story seized = two.more().tell(x -> x.police(0)).tell(x -> x.court(0, true));
        seized.due(cap + " SEIZED", 1, x -> x.pledge(0, 1, 0, 0, 1000, true));
        Story less = two.more().tell(x -> x.renew(0, 0, 599));
        less.due(cap + " renewed", 1, x -> x.pledge(0, 1, 0, 0, 999, true));
        less.refused(cap + " renewed", Story.STATE, x -> x.pledge(0, 1, 0, 0, 1000, true));
        Story other = two.more().tell(Story.charter(1, 50, 700)).tell(x -> x.classOf(0, 1));
        other.due(cap + " of the class of now", 1, x -> x.pledge(0, 1, 0, 0, 100, true));
        other.refused(cap + " of the class of now", Story.STATE, x -> x.pledge(0, 1, 0, 0, 101, true));
    }

    private static void loanAndShelves() {
        Story full = new Story().tell(x -> x.deposit(1000));
        for (int i = 0; i < 4; i++) {
            full.thing(Pledgehouse.TOOL, 50, 100).pledge(0, i, 0, 1, 1, false);
        }
        full.thing(Pledgehouse.RING, 10, 100).thing(Pledgehouse.RING, 11, 100)
                .thing(Pledgehouse.FUR, 10, 100).thing(Pledgehouse.FUR, 11, 100);
        String none = Document.says(10, "no shelf of the branch bears the thing");
        full.due(none + " 60", 4, x -> x.pledge(1, 4, 0, 1, 1, true), 5, x -> x.thingOf(4, 4));
        full.refused(none + " 61", Story.STATE, x -> x.pledge(1, 5, 0, 1, 1, true));
        full.due(none + " 60, a fur", 4, x -> x.pledge(1, 6, 0, 1, 1, true), 4, x -> x.thingOf(6, 4));
        full.refused(none + " 61, a fur", Story.STATE, x -> x.pledge(1, 7, 0, 1, 1, true));
        full.due(none + " another branch", 4, x -> x.pledge(1, 7, 0, 2, 1, true), 8, x -> x.thingOf(7, 4));
        Story strayed = full.more().tell(Story.stray(3, 0, 0));
        strayed.due(none + " one strayed away", 4, x -> x.pledge(1, 5, 0, 1, 1, true), 4, x -> x.thingOf(5, 4));
        Story here = full.more().pledge(1, 6, 0, 0, 1, false).tell(Story.stray(6, 1, 3));
        here.due(none + " one strayed to there", 5, x -> x.pledge(1, 4, 0, 1, 1, true), 5, x -> x.thingOf(4, 4));
        Story all = here.more().tell(x -> x.count(1));
        all.due(none + " and was counted", 0, x -> x.bears(1, 3));
    }

    private static void mostTickets() {
        String full = Document.says(10, "or there are 40 tickets");
        Story some = Houses.withTickets(39);
        some.refused(full + " 39, without loan", Story.ARGUMENT, x -> x.pledge(0, 1, 0, 0, 0, true));
        some.due(full + " 39", 39, x -> x.pledge(0, 1, 0, 0, 1, true), Pledgehouse.OPEN, x -> x.ticketOf(39, 0));
        Story all = Houses.withTickets(40);
        all.refused(full, Story.STATE, x -> x.pledge(0, 1, 0, 0, 1, true));
        all.refused(full + " the loan goes first", Story.ARGUMENT, x -> x.pledge(0, 1, 0, 0, 0, true));
        all.refused(full + " the branch goes first", Story.INDEX, x -> x.pledge(0, 1, 0, 3, 0, true));
        String number = Document.says(10, "Tickets are numbered from 0, at most 40, one for each pledge");
        all.due(number, 40, x -> x.redeem(39, 9));
        all.refused(number, Story.INDEX, x -> x.ticketOf(40, 0));
        all.refused(number, Story.INDEX, x -> x.ticketOf(-1, 0));
    }

    /** Numbers that no ticket of the busy house has. */
    private static final int[] NO_TICKETS = {-1, 9, Integer.MIN_VALUE, Integer.MAX_VALUE};

    private static void redeem() {
        Story busy = Houses.busy();
        String index = Document.says(11, "Throws `IndexOutOfBoundsException` if there is no such ticket or person");
        for (int ticket : NO_TICKETS) {
            busy.refused(index + ticket, Story.INDEX, x -> x.redeem(ticket, 0));
        }
        busy.range(index, Story.INDEX, 0, 9, (x, n) -> x.redeem(0, n), 420, Story.STATE);
        busy.refused(index + " ahead of the state", Story.INDEX, x -> x.redeem(5, 10));
        String state = Document.says(11,
                "if it is not OPEN, is barred, the person does not hold it, or the thing cannot be found");
        busy.refused(state + " who does not hold it", Story.STATE, x -> x.redeem(0, 1));
        busy.refused(state + " barred by a notice", Story.STATE, x -> x.redeem(2, 2));
        busy.refused(state + " who told the notice", Story.STATE, x -> x.redeem(2, 6));
        busy.refused(state + " barred by a list", Story.STATE, x -> x.redeem(3, 3));
        busy.refused(state + " cannot be found", Story.STATE, x -> x.redeem(4, 4));
        busy.refused(state + " SOLD", Story.STATE, x -> x.redeem(5, 5));
        busy.refused(state + " REDEEMED", Story.STATE, x -> x.redeem(6, 6));
        busy.refused(state + " SEIZED", Story.STATE, x -> x.redeem(7, 7));
        busy.refused(state + " barred by both", Story.STATE, x -> x.redeem(8, 8));
        Story anew = Houses.busy().pledge(6, 6, 0, 0, 1, false);
        anew.refused(state + " an older one, REDEEMED", Story.STATE, x -> x.redeem(6, 6));
        anew.refused(state + " an older one, to be renewed", Story.STATE, x -> x.renew(6, 6, 0));
        anew.refused(state + " an older one, to be offered", Story.STATE, x -> x.offer(6, 500));
        anew.due(state + " the one that is OPEN", 1, x -> x.redeem(9, 6), Pledgehouse.OUT, x -> x.thingOf(6, 3));
        Story given = Houses.busy().tell(x -> x.give(0, 7));
        given.refused(state + " who held it", Story.STATE, x -> x.redeem(0, 0));
        given.due(state + " who holds it", 420, x -> x.redeem(0, 7), Pledgehouse.OUT, x -> x.thingOf(0, 3));
    }

    /** The same tickets when what hindered is gone. */
    private static void redeemWhatCanBe() {
        Story busy = Houses.busy();
        String what = Document.says(11,
                "The thing of a ticket is handed over to its holder alone, if it is not barred, and if the thing can be found.");
        busy.due(what, 303, x -> x.redeem(1, 1), Pledgehouse.REDEEMED, x -> x.ticketOf(1, 0));
        busy.due(what + " shown", 6, x -> x.show(2), 210, x -> x.redeem(2, 2));
        busy.due(what + " listed no more", -1, x -> x.court(3, false), 630, x -> x.redeem(3, 3));
        busy.due(what + " strayed back", 0, Story.stray(4, 0, 1), 945, x -> x.redeem(4, 4));
        busy.due(what + " on another shelf", 0, Story.stray(4, 0, 2), Story.STATE, x -> x.redeem(4, 4));
        busy.due(what + " counted", 1, x -> x.count(2), 945, x -> x.redeem(4, 4));
        busy.due(what + " counted in the branch of the book", 100, x -> x.count(0), Story.STATE, x -> x.redeem(4, 4));
        busy.due(what + " one of two", 9, x -> x.show(8), Story.STATE, x -> x.redeem(8, 8));
        busy.due(what + " one of two", -1, x -> x.court(10, false), Story.STATE, x -> x.redeem(8, 8));
    }

    private static void renew() {
        Story busy = Houses.busy();
        String index = Document.says(12, "Throws `IndexOutOfBoundsException` if there is no such ticket or person");
        for (int ticket : NO_TICKETS) {
            busy.refused(index + ticket, Story.INDEX, x -> x.renew(ticket, 0, -1));
        }
        busy.range(index, Story.INDEX, 0, 9, (x, n) -> x.renew(0, n, 0), 20, Story.STATE);
        busy.refused(index + " ahead of the argument", Story.INDEX, x -> x.renew(0, 10, 400));
        String state = Document.says(12, "if it is not OPEN, is barred, or the person does not hold it");
        busy.refused(state + " who does not hold it", Story.STATE, x -> x.renew(0, 1, 0));
        busy.refused(state + " barred by a notice", Story.STATE, x -> x.renew(2, 2, 0));
        busy.refused(state + " barred by a list", Story.STATE, x -> x.renew(3, 3, 0));
        busy.refused(state + " SOLD", Story.STATE, x -> x.renew(5, 5, 0));
        busy.refused(state + " REDEEMED", Story.STATE, x -> x.renew(6, 6, 0));
        busy.refused(state + " SEIZED", Story.STATE, x -> x.renew(7, 7, 0));
        busy.refused(state + " barred by both", Story.STATE, x -> x.renew(8, 8, 0));
        busy.due(state + " what cannot be found", 45, x -> x.renew(4, 4, 0), 66, x -> x.ticketOf(4, 5));
        busy.due(state + " shown", 6, x -> x.show(2), 10, x -> x.renew(2, 2, 0));
        busy.due(state + " listed no more", -1, x -> x.court(3, false), 30, x -> x.renew(3, 3, 0));
        Story given = Houses.busy().tell(x -> x.give(0, 7));
        given.refused(state + " who held it", Story.STATE, x -> x.renew(0, 0, 0));
        given.due(state + " who holds it", 20, x -> x.renew(0, 7, 0), 7, x -> x.ticketOf(0, 4));
    }

    private static void renewLess() {
        Story busy = Houses.busy();
        String less = Document.says(12, "- `less`: 0 to the loan less 1: the part of the loan");
        busy.range(less, Story.ARGUMENT, 0, 399, (x, n) -> x.renew(0, 0, n), 20, 419);
        busy.due(less, 419, x -> x.renew(0, 0, 399), 1, x -> x.ticketOf(0, 2));
        busy.due(less, 20, x -> x.renew(0, 0, 0), 400, x -> x.ticketOf(0, 2));
        Story one = busy.more().tell(x -> x.renew(0, 0, 399));
        one.range(less + " of 1", Story.ARGUMENT, 0, 0, (x, n) -> x.renew(0, 0, n), 0, 0);
        busy.refused(less + " ahead of who comes", Story.ARGUMENT, x -> x.renew(0, 1, 400));
        busy.refused(less + " ahead of a bar", Story.ARGUMENT, x -> x.renew(2, 2, 200));
        busy.refused(less + " SOLD", Story.ARGUMENT, x -> x.renew(5, 5, -1));
        busy.refused(less + " SOLD", Story.ARGUMENT, x -> x.renew(5, 5, 300));
        busy.refused(less + " SOLD", Story.STATE, x -> x.renew(5, 5, 299));
        String anew = Document.says(12, "it begins again today, with the term of now");
        busy.due(anew, 20, x -> x.renew(0, 0, 0), 66, x -> x.ticketOf(0, 5));
        busy.due(anew, 20, x -> x.renew(0, 0, 0), 126, x -> x.ticketOf(0, 6));
        Story longer = busy.more().tell(x -> x.term(1000));
        longer.due(anew, 20, x -> x.renew(0, 0, 0), 1066, x -> x.ticketOf(0, 6));
        longer.due(anew, 20, x -> x.renew(0, 0, 0), 121, x -> x.ticketOf(1, 6));
        Story again = busy.more().tell(x -> x.renew(0, 0, 0));
        again.due(anew + " twice on a day", 0, x -> x.renew(0, 0, 0), 0, x -> x.ticketOf(0, 3));
        again.more().pass(3).due(anew + " up to 3 days", 0, x -> x.renew(0, 0, 0));
        again.more().pass(4).due(anew + " 4 days", 4, x -> x.renew(0, 0, 0));
        again.more().pass(60).refused(anew + " not overdue", Story.STATE, x -> x.offer(0, 1000));
        again.more().pass(61).due(anew + " overdue", 1000 - 50 - 400 - 20, x -> x.offer(0, 1000));
    }

    private static void give() {
        Story busy = Houses.busy();
        for (int ticket : NO_TICKETS) {
            busy.refused("13: no ticket " + ticket, Story.INDEX, x -> x.give(ticket, 0));
        }
        busy.range(Document.says(13, "- `person`: who holds it then"), Story.INDEX, 0, 9,
                (x, n) -> x.give(0, n), 0, 0);
        busy.refused("13: ahead of the state", Story.INDEX, x -> x.give(1, 10));
        String state = Document.says(13, "Throws `IllegalStateException` if it is named, or neither OPEN nor SOLD");
        busy.refused(state + " named", Story.STATE, x -> x.give(1, 2));
        busy.refused(state + " named, to who holds it", Story.STATE, x -> x.give(1, 1));
        busy.refused(state + " named and barred", Story.STATE, x -> x.give(8, 2));
        busy.refused(state + " REDEEMED", Story.STATE, x -> x.give(6, 2));
        busy.refused(state + " SEIZED", Story.STATE, x -> x.give(7, 2));
        busy.due(state + " OPEN", 0, x -> x.give(0, 9), 9, x -> x.ticketOf(0, 4));
        busy.due(state + " with a notice", 2, x -> x.give(2, 9), 9, x -> x.ticketOf(2, 4));
        busy.due(state + " listed", 3, x -> x.give(3, 9), 9, x -> x.ticketOf(3, 4));
        busy.due(state + " strayed", 4, x -> x.give(4, 9), 9, x -> x.ticketOf(4, 4));
        busy.due(state + " SOLD", 5, x -> x.give(5, 9), 9, x -> x.ticketOf(5, 4));
        Story sold = busy.more().tell(x -> x.renew(1, 1, 0)).pass(61).tell(x -> x.offer(1, 5000));
        sold.refused(state + " named and SOLD", Story.STATE, x -> x.give(1, 2));
    }

    private static void notice() {
        Story busy = Houses.busy();
        for (int ticket : NO_TICKETS) {
            busy.refused("14: no ticket " + ticket, Story.INDEX, Story.notice(ticket, 0));
        }
        busy.range(Document.says(14, "- `person`: who tells it"), Story.INDEX, 0, 9,
                (x, n) -> Story.notice(0, n).of(x), 0, 0);
        busy.refused("14: ahead of the state", Story.INDEX, Story.notice(2, 10));
        String state = Document.says(14, "if it is neither OPEN nor SOLD, or a notice is there");
        busy.refused(state + " there", Story.STATE, Story.notice(2, 5));
        busy.refused(state + " there, of the same person", Story.STATE, Story.notice(2, 6));
        busy.refused(state + " there, of a listed thing", Story.STATE, Story.notice(8, 0));
        busy.refused(state + " REDEEMED", Story.STATE, Story.notice(6, 0));
        busy.refused(state + " SEIZED", Story.STATE, Story.notice(7, 0));
        busy.due(state + " OPEN", 0, Story.notice(0, 9), 1, x -> x.ticketOf(0, 8));
        busy.due(state + " OPEN, of who holds it", 0, Story.notice(0, 0), 0, x -> x.show(0));
        busy.due(state + " named", 0, Story.notice(1, 9), 1, x -> x.ticketOf(1, 8));
        busy.due(state + " listed", 0, Story.notice(3, 9), 3, x -> x.ticketOf(3, 8));
        busy.due(state + " strayed", 0, Story.notice(4, 9), 1, x -> x.ticketOf(4, 8));
        busy.due(state + " SOLD", 0, Story.notice(5, 9), 1, x -> x.ticketOf(5, 8));
        busy.due(state + " shown", 6, x -> x.show(2), 0, Story.notice(2, 5));
    }

    private static void noticeDays() {
        // the notices on 2 and 8 are of the day 61, and now is the day 66
        Story last = Houses.busy().pass(22);
        String until = Document.says(14, "when 28 days have passed, the notice ends, and who told it holds the ticket");
        last.due(until + " 27 days", 2, x -> x.ticketOf(2, 4), 1, x -> x.ticketOf(2, 8));
        last.refused(until + " 27 days", Story.STATE, x -> x.renew(2, 2, 0));
        last.refused(until + " 27 days", Story.STATE, Story.notice(2, 5));
        last.due(until + " 27 days", 6, x -> x.show(2), 2, x -> x.ticketOf(2, 4));
        Story over = Houses.busy().pass(23);
        over.due(until + " 28 days", 6, x -> x.ticketOf(2, 4), 0, x -> x.ticketOf(2, 8));
        over.refused(until + " 28 days", Story.STATE, x -> x.show(2));
        over.refused(until + " who held it", Story.STATE, x -> x.redeem(2, 2));
        over.due(until + " 28 days", 200 + 6 * 2 + 3, x -> x.redeem(2, 6));
        over.due(until + " a named one", 9, x -> x.ticketOf(8, 4), 2, x -> x.ticketOf(8, 8));
        over.due(until + " it can be lost again", 0, Story.notice(2, 5), 5, x -> x.show(2));
        String also = Document.says(14, "also one that is not OPEN any more");
        Story sold = Houses.busy().tell(Story.notice(5, 3));
        sold.more().pass(27).due(also + " SOLD, 27 days", 5, x -> x.ticketOf(5, 4));
        sold.more().pass(27).refused(also + " SOLD, 27 days", Story.STATE, x -> x.claim(5, 5));
        sold.more().pass(28).due(also + " SOLD, 28 days", 3, x -> x.ticketOf(5, 4), 160, x -> x.claim(5, 3));
        sold.more().pass(28).refused(also + " SOLD, 28 days", Story.STATE, x -> x.claim(5, 5));
        Story seized = Houses.busy().tell(x -> x.court(10, true));
        seized.more().pass(22).due(also + " SEIZED, 27 days", 8, x -> x.ticketOf(8, 4), 1, x -> x.ticketOf(8, 8));
        seized.more().pass(23).due(also + " SEIZED, 28 days", 9, x -> x.ticketOf(8, 4), 0, x -> x.ticketOf(8, 8));
        seized.refused(also + " SEIZED, a notice is there", Story.STATE, Story.notice(8, 1));
        String can = Document.says(14, "Until then the holder can show it: the notice ends.");
        Story shown = Houses.busy().tell(x -> x.show(2)).tell(Story.notice(2, 5));
        shown.more().pass(27).due(can + " a new one has its own days", 2, x -> x.ticketOf(2, 4));
        shown.more().pass(28).due(can + " a new one has its own days", 5, x -> x.ticketOf(2, 4));
        Story given = Houses.busy().tell(x -> x.give(2, 4));
        given.more().pass(22).due(can + " passed on", 4, x -> x.ticketOf(2, 4));
        given.more().pass(23).due(can + " passed on", 6, x -> x.ticketOf(2, 4));
    }

    private static void show() {
        Story busy = Houses.busy();
        for (int ticket : NO_TICKETS) {
            busy.refused("15: no ticket " + ticket, Story.INDEX, x -> x.show(ticket));
        }
        String none = Document.says(15, "Throws `IllegalStateException` if there is no notice");
        for (int ticket : new int[] {0, 1, 3, 4, 5, 6, 7}) {
            busy.refused(none + ticket, Story.STATE, x -> x.show(ticket));
        }
        busy.due(none + " a notice", 6, x -> x.show(2), 0, x -> x.ticketOf(2, 8));
        busy.due(none + " and a list", 9, x -> x.show(8), 2, x -> x.ticketOf(8, 8));
        Story shown = Houses.busy().tell(x -> x.show(2));
        shown.refused(none + " shown", Story.STATE, x -> x.show(2));
        shown.more().pass(23).due(none + " it goes on no more", 2, x -> x.ticketOf(2, 4));
        Story seized = Houses.busy().tell(x -> x.court(10, true));
        seized.due(none + " SEIZED", 9, x -> x.show(8), 8, x -> x.ticketOf(8, 4));
    }

    private static final int[] NO_THINGS = {-1, 11, Integer.MIN_VALUE, Integer.MAX_VALUE};

    private static void police() {
        Story busy = Houses.busy();
        for (int thing : NO_THINGS) {
            busy.refused("16: no thing " + thing, Story.INDEX, x -> x.police(thing));
        }
        String listed = Document.says(16, "Throws `IllegalStateException` if it is listed");
        for (int thing : new int[] {3, 9, 10}) {
            busy.refused(listed + thing, Story.STATE, x -> x.police(thing));
        }
        String barred = Document.says(16, "Returns the ticket that is barred by that; NONE.");
        busy.due(barred, 0, x -> x.police(0), 2, x -> x.ticketOf(0, 8));
        busy.due(barred + " with a notice", 2, x -> x.police(2), 3, x -> x.ticketOf(2, 8));
        busy.due(barred + " strayed", 4, x -> x.police(4), 2, x -> x.ticketOf(4, 8));
        busy.due(barred + " SOLD", -1, x -> x.police(5), 0, x -> x.ticketOf(5, 8));
        busy.due(barred + " REDEEMED", -1, x -> x.police(6), 0, x -> x.ticketOf(6, 8));
        busy.due(barred + " SEIZED", -1, x -> x.police(7), 0, x -> x.ticketOf(7, 8));
        busy.due(barred + " never pledged", -1, x -> x.police(8), 1, x -> x.thingOf(8, 6));
        String until = Document.says(16, "is listed, until a court decides");
        Story later = Houses.busy().pass(1000);
        later.due(until, 1, x -> x.thingOf(3, 6), 2, x -> x.ticketOf(3, 8));
        busy.due(until, -1, x -> x.court(3, false), 3, x -> x.police(3));
        busy.due(until, 3, x -> x.court(3, true), -1, x -> x.police(3));
    }

    private static void court() {
        Story busy = Houses.busy();
        for (int thing : NO_THINGS) {
            busy.refused("17: no thing " + thing, Story.INDEX, x -> x.court(thing, true));
            busy.refused("17: no thing " + thing, Story.INDEX, x -> x.court(thing, false));
        }
        String not = Document.says(17, "Throws `IllegalStateException` if it is not listed");
        for (int thing : new int[] {0, 1, 2, 4, 5, 6, 7, 8}) {
            busy.refused(not + thing, Story.STATE, x -> x.court(thing, thing % 2 == 0));
        }
        String owner = Document.says(17, "Returns the ticket that is SEIZED; NONE.");
        busy.due(owner, 3, x -> x.court(3, true), Pledgehouse.SEIZED, x -> x.ticketOf(3, 0));
        busy.due(owner + " against the owner", -1, x -> x.court(3, false), Pledgehouse.OPEN, x -> x.ticketOf(3, 0));
        busy.due(owner + " OUT", -1, x -> x.court(9, true), 0, x -> x.thingOf(9, 6));
        busy.due(owner + " OUT", -1, x -> x.court(9, false), 0, x -> x.thingOf(9, 6));
        busy.due(owner + " with a notice", 8, x -> x.court(10, true), 1, x -> x.ticketOf(8, 8));
        Story decided = Houses.busy().tell(x -> x.court(3, true));
        decided.refused(not + " decided", Story.STATE, x -> x.court(3, true));
        String charged = Document.says(17,
                "a ticket of the thing that is OPEN is SEIZED, the thing is OUT, and its loan is charged to the expert");
        busy.due(charged + " ahead of it", 100, x -> x.expertOf(3, 1));
        decided.due(charged, 700, x -> x.expertOf(3, 1), Pledgehouse.OUT, x -> x.thingOf(3, 3));
        decided.due(charged, -1, x -> x.thingOf(3, 5), 60, x -> x.bears(1, 2));
        decided.due(charged, 0, x -> x.expertOf(3, 2), 0, x -> x.ticketOf(3, 3));
        Story older = Houses.busy().tell(x -> x.police(5));
        older.due(charged + " one that is SOLD", -1, x -> x.court(5, true), Pledgehouse.SOLD, x -> x.ticketOf(5, 0));
        older.due(charged + " one that is SOLD", -1, x -> x.court(5, true), 0, x -> x.expertOf(1, 1));
        Story renewed = Houses.busy().tell(x -> x.court(3, false)).tell(x -> x.renew(3, 3, 599))
                .tell(x -> x.police(3)).tell(x -> x.court(3, true));
        renewed.due(charged + " the loan of now", 101, x -> x.expertOf(3, 1));
    }
}
