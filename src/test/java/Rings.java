/** Scripts that go round by counting with flags 0 and 1: more is on the way than a text could hold otherwise. */
final class Rings {
    private Rings() {
    }

    /** Behind some nodes that are given: as many nodes as are asked for (55 to 62) are carried out, then end 5 is shown. */
    static String carriedOut(String before, int nodesBefore, int asked) {
        int always = (asked - 9) / 3;
        int once = (asked - 9) % 3;
        int secondRound = nodesBefore + always + 4 + once;
        String again = "j" + nodesBefore + ";";
        return before + "ha;".repeat(always) + "t1 " + (secondRound + 2) + ";t0 " + secondRound + ";f0+;"
                + "hb;".repeat(once) + again + "f1+;" + again + "e5;";
    }

    /** As many lines as are asked for (55 to 62) are shown, then end 5. */
    static String lines(int asked) {
        int always = asked / 4;
        int twice = asked % 4 / 2;
        int once = asked % 2;
        int evenRound = always + 3 + twice;
        return "sa0;".repeat(always) + "t0 " + evenRound + ";" + "sb1;".repeat(twice) + "f0+;j0;f0-;t1 "
                + (evenRound + 4 + once) + ";" + "sc2;".repeat(once) + "f1+;j0;e5;";
    }
}
