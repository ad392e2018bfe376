/** Recounts in situations that tests ask for, each made anew by the same calls. */
final class Situations {
    private Situations() {
    }

    /** Piles of which the side 0 has one vote more each. */
    static PileRecount even(int piles) {
        PileRecount x = new PileRecount();
        for (int i = 0; i < piles; i++) {
            x.pile(20, 19, 0);
        }
        return x;
    }

    static PileRecount fresh() {
        return new PileRecount();
    }

    /** One pile, as many votes for both sides, but not found so; the start of a text on the pad. */
    static PileRecount tie() {
        PileRecount x = new PileRecount();
        x.pile(5, 5, 3);
        x.finds(0, 8, 2);
        Checks.putText(x, "4,3=1");
        return x;
    }

    /** Four piles, none counted, both slots and the pad in use, and fewer than 6 changes. */
    static PileRecount ready() {
        PileRecount x = new PileRecount();
        Checks.putText(x, "20,10,1;30,10,2=28,11;5,9,3;40,40=41,39");
        x.make();
        x.save(0);
        x.limit(6000);
        x.seed(77);
        x.finds(2, 6, 9);
        x.save(1);
        Checks.putText(x, "7,6,5=4");
        return x;
    }

    /** Ten piles, none counted. */
    static PileRecount ten() {
        PileRecount x = even(10);
        x.finds(9, 21, 18);
        x.limit(2000);
        x.save(1);
        Checks.putText(x, "1,2");
        return x;
    }

    static PileRecount tenAndOneCounted() {
        PileRecount x = ten();
        x.count(4);
        return x;
    }

    /** Of five piles 3 and 1 are counted, and one may not stop. */
    static PileRecount underWay() {
        PileRecount x = even(5);
        x.finds(1, 22, 17);
        x.finds(2, 19, 20);
        x.save(0);
        x.count(3);
        x.count(1);
        Checks.putText(x, "9,8;7");
        return x;
    }

    /** Of five piles three are drawn, and it was stopped. */
    static PileRecount stopped() {
        PileRecount x = even(5);
        x.limit(4000);
        x.finds(4, 21, 18);
        x.save(0);
        x.finish();
        x.save(1);
        Checks.putText(x, "3,2");
        return x;
    }

    /** All piles are counted, and one may stop. */
    static PileRecount allRight() {
        PileRecount x = even(3);
        x.finds(1, 19, 20);
        x.finds(2, 22, 17);
        x.draw();
        x.draw();
        x.draw();
        return x;
    }

    static PileRecount allRightAndStopped() {
        PileRecount x = allRight();
        x.stop();
        return x;
    }

    /** All piles are counted, and the lead is 0. */
    static PileRecount allWrong() {
        PileRecount x = even(3);
        x.finds(1, 18, 20);
        x.count(1);
        x.count(2);
        x.count(0);
        return x;
    }

    /** None is counted; the true lead is 0, and one may not stop on the way. */
    static PileRecount hopeless() {
        PileRecount x = even(3);
        x.finds(1, 18, 20);
        x.limit(3333);
        x.seed(5);
        return x;
    }

    /** So many characters on the pad, of a text of which each tenth character is a ";". */
    static PileRecount withPad(int length) {
        PileRecount x = new PileRecount();
        x.pile(3, 2, 1);
        StringBuilder text = new StringBuilder();
        while (text.length() < length) {
            text.append("12,3=11,4;");
        }
        Checks.putText(x, text.substring(0, length));
        return x;
    }

    static PileRecount withFault() {
        PileRecount x = new PileRecount();
        x.pile(3, 2, 1);
        Checks.putText(x, "1,2;3;4,5");
        return x;
    }

    /** Seven changes, of which six can be undone, and nothing saved but in the slot 1. */
    static PileRecount withFullHistory() {
        PileRecount x = even(2);
        x.limit(5000);
        x.finds(0, 21, 18);
        x.seed(9);
        x.save(1);
        x.draw();
        x.stop();
        return x;
    }
}
