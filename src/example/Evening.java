/** An evening in the park: a glad man and a sorry girl hang level, then a mayor comes. */
public final class Evening {
    private static void say(String what, int answer) {
        System.out.println(what + ": " + answer);
    }

    /** Puts a text on the tape, a byte a call. */
    private static void tell(SeeSawHearts x, String text) {
        for (int i = 0; i < text.length(); i++) {
            x.feed(text.charAt(i), 1);
        }
    }

    public static void main(String[] args) {
        SeeSawHearts x = new SeeSawHearts();
        int man = x.person(0);
        int girl = x.person(1);
        x.set(man, 1, 7);    // GLAD becomes 7
        x.set(girl, 2, 5);   // SORRY becomes 5
        x.set(man, 3, 0);    // sits at end 0
        x.set(girl, 3, 1);   // sits at end 1
        say("heart of the man", x.heart(man) - 1000);
        say("heart of the girl", x.heart(girl) - 1000);
        say("level (1: it is)", x.now(3));

        tell(x, "mayor glad 9 on 0; bag 5");
        say("items told by the text", x.park());
        say("tilt with the mayor", x.now(2) - 10000);
        say("who must get off end 0, as bits", x.fewest(0));
        say("or grievances to hang at end 0", x.weights());
        x.hang(0);
        x.hang(0);
        say("tilt with two of them", x.now(2) - 10000);
        say("tilt in 3 minutes", x.tilt(3) - 10000);

        say("heart of one who is not there", x.heart(7));
        say("findings so far", x.status(-1));
    }
}
