/**
 * The edges of what the document tells in the first half of its part 6, and of promises 22, 45 and
 * 46: pictures packed, and read back.
 */
public final class PackedEdgesTest {
    public static void main(String[] args) {
        whitePacked();
        blackPacked();
        cornersPacked();
        linesTwelveToFifteenAreWhite();
        quartersOfASingleCell();
        linesWithoutRunsAreLeftOut();
        outlinesByEight();
        readBackIsAlike();
        howFromNoneToTwo();
        theFirstOfTheShortest();
        Due.end();
    }

    private static Runpicture of(String lines) {
        Runpicture x = new Runpicture();
        Due.drawn(x, lines);
        return x;
    }

    private static void whitePacked() {
        Runpicture x = of("");
        String[] due = {"", ".", ""};
        for (int how = 0; how <= 2; how++) {
            Due.is("packed " + how, x.packed(0, how), due[how]);
        }
    }

    private static void blackPacked() {
        Runpicture x = of("");
        x.not(0);
        StringBuilder runs = new StringBuilder();
        for (int line = 0; line < 12; line++) {
            runs.append(line == 0 ? "" : ";").append(line).append(":0-15");
        }
        Due.is("runs", x.packed(1, 0), runs.toString());
        Due.is("quarters", x.packed(1, 1), "(##(##..)(##..))");
        Due.is("steps", x.packed(1, 2),
                "0,0:" + "E".repeat(16) + "S".repeat(12) + "W".repeat(16) + "N".repeat(12));
    }

    private static void cornersPacked() {
        int[][] corners = {{0, 0}, {0, 15}, {11, 0}, {11, 15}};
        String[] quarters = {
            "((((#...)...)...)...)", "(.(.(.(.#..)..)..)..)", "(..((..(..#.).)...).)", "(...(.(...(...#))..))"
        };
        for (int n = 0; n < 4; n++) {
            Runpicture x = of("");
            int line = corners[n][0];
            int column = corners[n][1];
            x.put(0, line, column, column);
            Due.is("runs", x.packed(0, 0), line + ":" + column + "-" + column);
            Due.is("quarters", x.packed(0, 1), quarters[n]);
            Due.is("steps", x.packed(0, 2), line + "," + column + ":ESWN");
        }
    }

    private static void linesTwelveToFifteenAreWhite() {
        Runpicture x = of("");
        for (int line = 8; line < 12; line++) {
            x.draw(0, line, 65535);
        }
        Due.is("the lower half is never all black", x.packed(0, 1), "(..(##..)(##..))");
        x.draw(0, 11, 65534);
        Due.is("a quarter less", x.packed(0, 1), "(..((##(##.#)#)#..)(##..))");
        for (int how = 0; how <= 2; how++) {
            x.readBack(0, how);
            Due.is("read back", x.compare(0, 1, 0), 1);
            x.drop();
        }
    }

    private static void quartersOfASingleCell() {
        Runpicture x = of("");
        x.put(0, 7, 8, 8);
        Due.is("left below", x.packed(0, 1), "(.(..(..(..#.).).)..)");
        x.put(0, 7, 9, 9);
        x.put(0, 6, 8, 9);
        Due.is("four cells are one quarter", x.packed(0, 1), "(.(..(..#.).)..)");
        x.take(0, 6, 9, 9);
        Due.is("three are not", x.packed(0, 1), "(.(..(..(#.##).).)..)");
    }

    private static void linesWithoutRunsAreLeftOut() {
        Runpicture x = of("");
        x.put(0, 1, 0, 0);
        x.put(0, 1, 2, 15);
        x.put(0, 10, 15, 15);
        Due.is("by rising numbers", x.packed(0, 0), "1:0-0,2-15;10:15-15");
        x.draw(0, 1, 0);
        Due.is("one line", x.packed(0, 0), "10:15-15");
        x.draw(0, 10, 21845);
        Due.is("most runs", x.packed(0, 0), "10:0-0,2-2,4-4,6-6,8-8,10-10,12-12,14-14");
    }

    private static void outlinesByEight() {
        Due.is("one by eight", of("#/.#").packed(0, 2), "0,0:ESESWNWN");
        Due.is("two apart", of("#.#").packed(0, 2), "0,0:ESWN;0,2:ESWN");
        Due.is("a hole", of("###/#.#/###").packed(0, 2), "0,0:EEESSSWWWNNN;2,1:ENWS");
        Due.is("columns of two digits", of("///////////...............#").packed(0, 2), "11,15:ESWN");
    }

    private static void readBackIsAlike() {
        String[] all = {
            "", "#", "///////////...............#", "#.#.#.#.#.#.#.#./.#.#.#.#.#.#.#.#/".repeat(6),
            "################/".repeat(12), "#####/##..#/#.#.#/#...#/#####", "####/##.#/#.##/####",
            "#########/#.......#/#.#####.#/#.#...#.#/#.#.#.#.#/#.#...#.#/#.#####.#/#.......#/#########"
        };
        for (String lines : all) {
            Runpicture x = of(lines);
            for (int how = 0; how <= 2; how++) {
                Due.is("number", x.readBack(0, how), 1 + how);
                Due.is("read back " + how + " of " + lines, x.compare(0, 1 + how, 0), 1);
            }
            Due.is("sound", x.isSound(), true);
        }
    }

    private static void howFromNoneToTwo() {
        Runpicture x = of("#");
        Due.is("the first", x.packed(0, 0), "0:0-0");
        Due.is("the last", x.packed(0, 2), "0,0:ESWN");
        for (int how : new int[] {-1, 3}) {
            Due.noArgument(x, "packed", () -> x.packed(0, how));
            Due.noArgument(x, "readBack", () -> x.readBack(0, how));
            Due.noIndex(x, "packed of none", () -> x.packed(1, how));
            Due.noIndex(x, "readBack of none", () -> x.readBack(1, how));
        }
        Due.noIndex(x, "leastPacked of none", () -> x.leastPacked(1));
        Due.noIndex(x, "leastPacked of none", () -> x.leastPacked(-1));
        Due.fill(x);
        for (int how = 0; how <= 2; how++) {
            int each = how;
            Due.noState(x, "readBack in a full house", () -> x.readBack(7, each));
        }
        Due.noArgument(x, "and how", () -> x.readBack(7, 3));
        Due.noIndex(x, "and no picture", () -> x.readBack(8, 3));
    }

    /** How many signs as runs, as quarters and as steps, and which has the fewest. */
    private static void theFirstOfTheShortest() {
        lengths("", 0, 1, 0, 0);
        lengths("//////////.#", 6, 21, 9, 0);
        lengths("///////////############", 7, 61, 31, 0);
        lengths("//////////............####/............####", 17, 16, 18, 1);
        lengths("........#/........#", 11, 21, 10, 2);
        lengths("........##/........##/........##/........##", 23, 16, 16, 1);
        lengths("////########.#####/##############/##############/##############", 31, 31, 42, 0);
        lengths("////////....####/....####", 11, 16, 16, 0);
        lengths("//......##########/......##########/......##########/......####.#####/......##########/......##########",
                46, 46, 46, 0);
    }

    private static void lengths(String lines, int runs, int quarters, int steps, int least) {
        Runpicture x = of(lines);
        Due.is("as runs " + x.packed(0, 0), x.packed(0, 0).length(), runs);
        Due.is("as quarters " + x.packed(0, 1), x.packed(0, 1).length(), quarters);
        Due.is("as steps " + x.packed(0, 2), x.packed(0, 2).length(), steps);
        Due.is("least", x.leastPacked(0), least);
    }
}
