/** Houses that several tests begin with. */
final class Houses {
    private Houses() {
    }

    /**
     * A house on the day 66 with a ticket of each sort, all of the day 0 and with the term 60:
     * 0 plain, 1 named and renewed on the day 61, 2 with a notice of the person 6 of the day 61, 3 of a listed thing,
     * 4 of a thing that strayed, 5 SOLD with a surplus, 6 REDEEMED, 7 SEIZED, 8 named, with a notice of the person 9
     * and of a listed thing. The ticket n is of the thing n, but for 8, of the thing 10, and of the person n. The
     * thing 8 was never pledged, the thing 9 neither, and is listed.
     */
    static Story busy() {
        return new Story().tell(x -> x.deposit(20000)).tell(x -> x.term(60))
                .tell(Story.charter(1, 80, 3000)).tell(x -> x.classOf(3, 1)).tell(x -> x.bias(2, 10))
                .thing(Pledgehouse.RING, 5, 1000)
                .thing(Pledgehouse.FUR, 40, 1000)
                .thing(Pledgehouse.FUR, 30, 500)
                .thing(Pledgehouse.CLOCK, 50, 800)
                .thing(Pledgehouse.TOOL, 20, 2000)
                .thing(Pledgehouse.RING, 10, 700)
                .thing(Pledgehouse.RING, 1, 100)
                .thing(Pledgehouse.TOOL, 1, 300)
                .thing(Pledgehouse.RING, 1, 10)
                .thing(Pledgehouse.TOOL, 9, 500)
                .thing(Pledgehouse.CLOCK, 7, 600)
                .pledge(0, 0, 0, 0, 400, false)
                .pledge(1, 1, 1, 1, 300, true)
                .pledge(2, 2, 2, 1, 200, false)
                .pledge(3, 3, 3, 1, 600, false)
                .pledge(4, 4, 0, 0, 900, false)
                .pledge(5, 5, 1, 0, 300, false)
                .pledge(6, 6, 2, 0, 50, false)
                .pledge(7, 7, 3, 2, 100, false)
                .pledge(8, 10, 0, 2, 250, true)
                .pass(61)
                .tell(x -> x.redeem(6, 6))
                .tell(x -> x.police(7)).tell(x -> x.court(7, true))
                .tell(x -> x.offer(5, 500))
                .tell(x -> x.renew(1, 1, 0))
                .tell(Story.notice(2, 6))
                .tell(x -> x.police(3))
                .tell(Story.stray(4, 2, 3))
                .tell(x -> x.police(9))
                .tell(Story.notice(8, 9)).tell(x -> x.police(10))
                .pass(5);
    }

    /** Forty tickets, all but the last one REDEEMED, or one fewer: the thing 1 is OUT. */
    static Story withTickets(int tickets) {
        Story many = new Story().tell(x -> x.deposit(1000))
                .thing(Pledgehouse.RING, 1, 100).thing(Pledgehouse.RING, 1, 100);
        for (int i = 0; i < tickets; i++) {
            int n = i;
            many.pledge(i % 10, 0, 0, 0, 1 + i % 50, false);
            if (i < tickets - 1) {
                many.tell(x -> x.redeem(n, n % 10));
            }
        }
        return many;
    }
}
