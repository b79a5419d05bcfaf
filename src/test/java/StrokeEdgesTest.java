import java.math.BigDecimal;

/**
 * STROKES and DASHES of part 9. How far pieces reach is told to the unit by the places: a stroke that
 * is moved until it touches the last place is taken, one unit more is LIMIT.
 */
public final class StrokeEdgesTest {
    private static final int PLACE = 536870912;
    private static final int NONE = Integer.MIN_VALUE;
    private static final String PLAIN = "[ 1 0 0 1 0 0 ] setmatrix ";

    public static void main(String[] args) {
        widths();
        greatScales();
        across();
        caps();
        joins();
        cutDashes();
        dashesInTurn();
        dashesAboutCorners();
        passedOver();
        mitres();
        slanted();
        manyRows();
        halfWidths();
        dashLengths();
        noDashes();
        manyPoints();
        manyPieces();
        manyDashes();
        flattenedStrokes();
        whatFails();
        settings();
        Probe.finish();
    }

    private static String unit(int n) {
        return BigDecimal.valueOf(n).divide(BigDecimal.valueOf(65536)).toPlainString() + " ";
    }

    private static int error(String program) {
        Probe p = new Probe();
        p.run(program);
        return p.machine.error();
    }

    private static void reaches(String matrix, String settings, String path, int left, int top, int right, int bottom) {
        int[] to = {left, top, right, bottom};
        for (int side = 0; side < 4; side++) {
            if (to[side] == NONE) {
                continue;
            }
            int way = side < 2 ? -1 : 1;
            int far = way * PLACE - to[side];
            for (int more = 0; more <= 1; more++) {
                String x = side % 2 == 0 ? unit(far + way * more) : "0 ";
                String y = side % 2 == 1 ? unit(far + way * more) : "0 ";
                String program = "[ " + matrix + " " + x + y + "] setmatrix " + settings + " " + path + " stroke";
                Probe.due("side " + side + " of " + program, error(program), more == 0 ? 0 : 12);
            }
        }
    }

    /** What is painted on a page as wide and high as the rows that are told. */
    private static void painted(String program, String... rows) {
        Probe p = new Probe(rows[0].length(), rows.length);
        Probe.due(program, p.run(PLAIN + program + " stroke"), 0);
        for (int row = 0; row < rows.length; row++) {
            Probe.due(program + ": row " + row, p.row(row), rows[row]);
        }
    }

    /** "h is (width SCALE / 131072 ROUNDED), at least 1"; "SCALE is the greatest whole number .." */
    private static void widths() {
        // h is (width SCALE / 131072 ROUNDED), at least 1
        reaches("1 0 0 1", "0 setlinewidth",
                "0 0 moveto 0.000152587890625 0 lineto", 0, -1, 10, 1);
        reaches("1 0 0 1", "0.0000152587890625 setlinewidth",
                "0 0 moveto 0.000152587890625 0 lineto", 0, -1, 10, 1);
        reaches("1 0 0 1", "0.000030517578125 setlinewidth",
                "0 0 moveto 0.000152587890625 0 lineto", 0, -1, 10, 1);
        reaches("1 0 0 1", "0.0000457763671875 setlinewidth",
                "0 0 moveto 0.000152587890625 0 lineto", 0, -2, 10, 2);
        reaches("1 0 0 1", "0.00006103515625 setlinewidth",
                "0 0 moveto 0.000152587890625 0 lineto", 0, -2, 10, 2);
        // SCALE is the greatest whole number whose square is not above |a d - b c|
        reaches("2 0 0 2", "0.00030517578125 setlinewidth",
                "0 0 moveto 0.000152587890625 0 lineto", 0, -20, 20, 20);
        reaches("2 0 0 3", "0.00030517578125 setlinewidth",
                "0 0 moveto 0.000152587890625 0 lineto", 0, -24, 20, 24);
        reaches("2 0 0 3", "3.0517578125 setlinewidth",
                "0 0 moveto 0.00152587890625 0 lineto", 0, -244948, 200, 244948);
        reaches("0 1 -2 0", "3.0517578125 setlinewidth",
                "0 0 moveto 0.00152587890625 0 lineto", -141420, 0, 141420, 100);
        reaches("1 0 0 0", "3.0517578125 setlinewidth",
                "0 0 moveto 0.00152587890625 0 lineto", 0, -1, 100, 1);
        reaches("1 1 1 1", "3.0517578125 setlinewidth",
                "0 0 moveto 0.00152587890625 0 lineto", -1, -1, 101, 101);
        reaches("1 0 0 0.5", "3.0517578125 setlinewidth",
                "0 0 moveto 0.00152587890625 0 lineto", 0, -70709, 100, 70709);
    }

    /** SCALE as great as may be, of a matrix whose a d - b c leaves no bit of 64 free. */
    private static void greatScales() {
        reaches("32767 32767 -32767 32767", "0.0000152587890625 setlinewidth",
                "0 0 moveto 0.0000152587890625 0 lineto", -16384, -16384, 49151, 49151);
        String most = "32767.9999847412109375";
        reaches(most + " " + most + " -" + most + " " + most, "0.0000152587890625 setlinewidth",
                "0 0 moveto 0.0000152587890625 0 lineto", -16384, -16384, 49152, 49152);
    }

    /** "its LENGTH is the greatest whole number L ..; its ACROSS is n = ((-dy h / L) ROUNDED, ..)" */
    private static void across() {
        // LENGTH is the greatest whole number L with L L <= dx dx + dy dy
        reaches("1 0 0 1", "0.00030517578125 setlinewidth",
                "0 0 moveto 0.0000152587890625 0.0000152587890625 lineto", -10, -10, 11, 11);
        reaches("1 0 0 1", "0.00030517578125 setlinewidth",
                "0 0 moveto 0.0000152587890625 0.000030517578125 lineto", -10, -5, 11, 7);
        reaches("1 0 0 1", "0.00030517578125 setlinewidth",
                "0 0 moveto 0.000030517578125 0.0000457763671875 lineto", -10, -7, 12, 10);
        reaches("1 0 0 1", "0.00030517578125 setlinewidth",
                "0 0 moveto -0.000030517578125 0.0000457763671875 lineto", -12, -7, 10, 10);
        reaches("1 0 0 1", "0.00030517578125 setlinewidth",
                "0 0 moveto 0.000030517578125 -0.0000457763671875 lineto", -10, -10, 12, 7);
        reaches("1 0 0 1", "0.00030517578125 setlinewidth",
                "0 0 moveto -0.0000457763671875 -0.000030517578125 lineto", -10, -12, 7, 10);
        // ACROSS is rounded: halves go up
        reaches("1 0 0 1", "0.0000762939453125 setlinewidth",
                "0 0 moveto 3 4 lineto", -2, -2, 196610, 262146);
        reaches("1 0 0 1", "0.000152587890625 setlinewidth",
                "0 0 moveto -3 4 lineto", -196612, -3, 4, 262147);
        reaches("1 0 0 1", "0.000762939453125 setlinewidth",
                "0 0 moveto 4 -3 lineto", -15, -196628, 262159, 20);
        // A SEGMENT as long as it can be
        reaches("1 0 0 1", "0.00030517578125 setlinewidth",
                "-4096 0 moveto 4096 0 lineto", -268435456, -10, 268435456, 10);
    }

    /** "The CAP at its end: b + n, b + n + t, b - n + t, b - n; at its beginning: .." */
    private static void caps() {
        // caps lie ALONG
        reaches("1 0 0 1", "2 setlinewidth 2 setlinecap",
                "0 0 moveto 3 4 lineto", -91751, -91751, 288359, 353895);
        reaches("1 0 0 1", "0.00030517578125 setlinewidth 2 setlinecap",
                "0 0 moveto 0.000030517578125 0.0000457763671875 lineto", -17, -17, 19, 20);
        reaches("1 0 0 1", "0.00030517578125 setlinewidth 2 setlinecap",
                "0 0 moveto -0.0000457763671875 0.000030517578125 lineto", -20, -17, 17, 19);
        reaches("1 0 0 1", "1 setlinewidth 2 setlinecap",
                "0 0 moveto 10 0 lineto 10 5 lineto", -32768, -32768, 688128, 360448);
    }

    /** "The JOIN of a segment and the next one ..: none when z .. is 0" */
    private static void joins() {
        // the mitre of a right angle, to either side
        reaches("1 0 0 1", "2 setlinewidth",
                "0 0 moveto 10 0 lineto 10 10 lineto", 0, -65536, 720896, 655360);
        reaches("1 0 0 1", "2 setlinewidth",
                "0 0 moveto 10 0 lineto 10 -10 lineto", 0, -655360, 720896, 65536);
        // c 65536 >= C h h: M of 92682 units is enough for it, 92681 are not
        reaches("1 0 0 1", "2 setlinewidth 1.414215087890625 setmiterlimit",
                "0 0 moveto 10 10 lineto 20 0 lineto", -46341, -46341, 1357061, 748042);
        reaches("1 0 0 1", "2 setlinewidth 1.4141998291015625 setmiterlimit",
                "0 0 moveto 10 10 lineto 20 0 lineto", -46341, -46341, 1357061, 701701);
        // a sharp corner, and a sharper one
        reaches("1 0 0 1", "2 setlinewidth",
                "0 0 moveto 10 0 lineto 0 4 lineto", -24339, -65536, 995680, 322993);
        reaches("1 0 0 1", "2 setlinewidth",
                "0 0 moveto 10 0 lineto 0 2 lineto", -12853, -65536, 668213, 195335);
        reaches("1 0 0 1", "2 setlinewidth 100 setmiterlimit",
                "0 0 moveto 10 0 lineto 0 2 lineto", -12853, -65536, 1317052, 195335);
        reaches("1 0 0 1", "2 setlinewidth 2 setlinejoin",
                "0 0 moveto 10 0 lineto 0 4 lineto", -24339, -65536, 679699, 322993);
        // the first limit is 10.0: this mitre is within it, the next one is not
        reaches("1 0 0 1", "1 setlinewidth",
                "0 0 moveto 10 0 lineto 0.220001220703125 2.0860443115234375 lineto", 0, -32768, 966042, 168758);
        reaches("1 0 0 1", "1 setlinewidth",
                "0 0 moveto 10 0 lineto 0.17999267578125 1.8888092041015625 lineto", 0, -32768, 661549, 155963);
        // no join where the way goes on, or straight back
        reaches("1 0 0 1", "2 setlinewidth",
                "0 0 moveto 10 0 lineto 20 0 lineto", 0, -65536, 1310720, 65536);
        reaches("1 0 0 1", "2 setlinewidth",
                "0 0 moveto 10 0 lineto 5 0 lineto", 0, -65536, 655360, 65536);
        // a closed row has joins at all points
        reaches("1 0 0 1", "2 setlinewidth",
                "0 0 moveto 10 0 lineto 0 7 lineto closepath", -65536, -65536, 863258, 584622);
        reaches("1 0 0 1", "2 setlinewidth 2 setlinejoin",
                "0 0 moveto 10 0 lineto 0 7 lineto closepath", -65536, -65536, 692942, 512441);
        // two points, closed: there and back
        reaches("1 0 0 1", "2 setlinewidth 2 setlinecap",
                "0 0 moveto 10 0 lineto closepath", 0, -65536, 655360, 65536);
    }

    /** "the place is the CUT at (a + (dx u / L) ROUNDED, b + (dy u / L) ROUNDED)" */
    private static void cutDashes() {
        // the CUT is rounded
        reaches("1 0 0 1", "0.0030517578125 setlinewidth [ 0.0000762939453125 8192 ] 0 setdash",
                "0 0 moveto 0.00030517578125 0.000457763671875 lineto", -80, -60, 83, 64);
        reaches("1 0 0 1", "0.0030517578125 setlinewidth [ 0.0000762939453125 8192 ] 0 setdash",
                "0 0 moveto -0.00030517578125 0.000457763671875 lineto", -83, -60, 80, 64);
        reaches("1 0 0 1", "0.0030517578125 setlinewidth [ 0.0001068115234375 8192 ] 0 setdash",
                "0 0 moveto 0.00030517578125 -0.000457763671875 lineto", -86, -63, 90, 57);
        reaches("1 0 0 1", "0.0030517578125 setlinewidth [ 0.000091552734375 8192 ] 0 setdash",
                "0 0 moveto 0.0001678466796875 -0.0000762939453125 lineto", -33, -102, 39, 100);
        reaches("1 0 0 1", "0.0030517578125 setlinewidth [ 0.000091552734375 8192 ] 0 setdash",
                "0 0 moveto -0.0001678466796875 -0.0000762939453125 lineto", -45, -102, 40, 100);
        reaches("1 0 0 1", "0.0030517578125 setlinewidth [ 0.0000457763671875 8192 ] 0 setdash",
                "0 0 moveto 0.00006103515625 -0.00006103515625 lineto", -100, -102, 102, 100);
        // lengths by SCALE, rounded
        reaches("1 0 0 0.5", "0.1220703125 setlinewidth 2 setlinecap [ 0.0000762939453125 2048 ] 0 setdash",
                "0 0 moveto 0.0152587890625 0 lineto", -2828, -2828, 2832, 2828);
        reaches("1 0 0 0.25", "0.1220703125 setlinewidth 2 setlinecap [ 0.000091552734375 2048 ] 0 setdash",
                "0 0 moveto 0.0152587890625 0 lineto", -2000, -2000, 2003, 2000);
        reaches("1 0 0 0.25", "0.1220703125 setlinewidth 2 setlinecap [ 0.0001068115234375 2048 ] 0 setdash",
                "0 0 moveto 0.0152587890625 0 lineto", -2000, -2000, 2004, 2000);
        // The offset is walked first
        reaches("1 0 0 1", "0.1220703125 setlinewidth 2 setlinecap [ 0.000152587890625 8192 ] 0.0001373291015625 setdash",
                "0 0 moveto 0.0152587890625 0 lineto", -4000, -4000, 4001, 4000);
        reaches("1 0 0 1", "0.1220703125 setlinewidth 2 setlinecap [ 0.000152587890625 0.00030517578125 0.000457763671875 8192 ] 0.000152587890625 setdash",
                "0 0 moveto 0.0152587890625 0 lineto", -3980, -4000, 4050, 4000);
        reaches("1 0 0 1", "0.1220703125 setlinewidth 2 setlinecap [ 0.000152587890625 0.00030517578125 0.000457763671875 8192 ] 0.0004425048828125 setdash",
                "0 0 moveto 0.0152587890625 0 lineto", -3999, -4000, 4031, 4000);
        reaches("1 0 0 1", "0.1220703125 setlinewidth 2 setlinecap [ 0.000152587890625 0.00030517578125 0.000457763671875 8192 ] 0.000457763671875 setdash",
                "0 0 moveto 0.0152587890625 0 lineto", -4000, -4000, 4030, 4000);
        reaches("1 0 0 1", "0.1220703125 setlinewidth 2 setlinecap [ 0.000152587890625 2048 ] 2048.0001983642578125 setdash",
                "0 0 moveto 0.0152587890625 0 lineto", -4000, -4000, 4007, 4000);
        // a dash that is as long as its segment goes on behind it
        reaches("1 0 0 1", "0.0030517578125 setlinewidth [ 0.000152587890625 8192 ] 0 setdash",
                "0 0 moveto 0.000152587890625 0 lineto 0.000152587890625 0.0006103515625 lineto", 0, -100, 10, 100);
        reaches("1 0 0 1", "0.0030517578125 setlinewidth [ 0.0001678466796875 8192 ] 0 setdash",
                "0 0 moveto 0.000152587890625 0 lineto 0.000152587890625 0.0006103515625 lineto", -90, -100, 110, 100);
        // a dash over a corner has its join
        reaches("1 0 0 1", "2 setlinewidth [ 12 8192 ] 0 setdash",
                "0 0 moveto 10 0 lineto 10 10 lineto", 0, -65536, 720896, NONE);
        // one round a closed row has none where it begins and ends
        reaches("1 0 0 1", "2 setlinewidth [ 100 1 ] 0 setdash",
                "0 0 moveto 10 0 lineto 5 8 lineto closepath", -55574, -65536, 773602, 647939);
        reaches("1 0 0 1", "2 setlinewidth",
                "0 0 moveto 10 0 lineto 5 8 lineto closepath", -118242, -65536, 773602, 647939);
    }

    /** "DASHES are taken in turn, again and again; each second one of those that are taken is a GAP." */
    private static void dashesInTurn() {
        painted("1 setlinewidth [ 2 1 ] 0 setdash "
                + "0 2.5 moveto 12 2.5 lineto",
                "............", "............", "##.##.##.##.", "............",
                "............");
        painted("1 setlinewidth [ 2 1 ] 2 setdash "
                + "0 2.5 moveto 12 2.5 lineto",
                "............", "............", ".##.##.##.##", "............",
                "............");
        painted("1 setlinewidth [ 2 1 ] 1.99998 setdash "
                + "0 2.5 moveto 12 2.5 lineto",
                "............", "............", ".##.##.##.##", "............",
                "............");
        painted("1 setlinewidth [ 2 1 ] 3 setdash "
                + "0 2.5 moveto 12 2.5 lineto",
                "............", "............", "##.##.##.##.", "............",
                "............");
        painted("1 setlinewidth [ 2 ] 2 setdash "
                + "0 2.5 moveto 12 2.5 lineto",
                "............", "............", "..##..##..##", "............",
                "............");
        painted("1 setlinewidth [ 2 ] 6 setdash "
                + "0 2.5 moveto 12 2.5 lineto",
                "............", "............", "..##..##..##", "............",
                "............");
        painted("1 setlinewidth [ 1 2 3 ] 0 setdash "
                + "0 2.5 moveto 12 2.5 lineto",
                "............", "............", "#..###.##...", "............",
                "............");
        painted("1 setlinewidth [ 1 2 3 ] 7 setdash "
                + "0 2.5 moveto 12 2.5 lineto",
                "............", "............", "##...#..###.", "............",
                "............");
        painted("1 setlinewidth [ 0 2 1 1 ] 0 setdash "
                + "0 2.5 moveto 12 2.5 lineto",
                "............", "............", "..#...#...#.", "............",
                "............");
        painted("1 setlinewidth [ 3 0 ] 0 setdash "
                + "0 2.5 moveto 12 2.5 lineto",
                "............", "............", "############", "............",
                "............");
        painted("1 setlinewidth 2 setlinecap [ 3 0 ] 1 setdash "
                + "0 2.5 moveto 12 2.5 lineto",
                "............", "............", "############", "............",
                "............");
        painted("1 setlinewidth [ 1 1 1 1 1 1 1 2 ] 0 setdash "
                + "0 2.5 moveto 12 2.5 lineto",
                "............", "............", "#.#.#.#..#.#", "............",
                "............");
        painted("1 setlinewidth [ 12 1 ] 0 setdash "
                + "0 2.5 moveto 12 2.5 lineto",
                "............", "............", "############", "............",
                "............");
        painted("1 setlinewidth [ 11.5 1 ] 0 setdash "
                + "0 2.5 moveto 12 2.5 lineto",
                "............", "............", "###########.", "............",
                "............");
        painted("2 setlinewidth 2 setlinecap [ 2 3 ] 0 setdash "
                + "0 2.5 moveto 12 2.5 lineto",
                "............", "###.####.###", "###.####.###", "............",
                "............");
    }

    /** "What lies in a dash that is no gap, with the points that it passes, is an open run" */
    private static void dashesAboutCorners() {
        painted("2 setlinewidth [ 4 3 ] 0 setdash "
                + "1 1 moveto 7 1 lineto 7 5 lineto",
                ".####....", ".####....", "......##.", "......##.",
                "......##.", ".........");
        painted("2 setlinewidth [ 8 1 ] 0 setdash "
                + "1 1 moveto 7 1 lineto 7 5 lineto",
                ".#######.", ".#######.", "......##.", ".........",
                "......##.", ".........");
        painted("2 setlinewidth [ 6 1 ] 0 setdash "
                + "1 1 moveto 7 1 lineto 7 5 lineto",
                ".######..", ".######..", "......##.", "......##.",
                "......##.", ".........");
        painted("2 setlinewidth "
                + "2 2 moveto 8 2 lineto 8 6 lineto 2 6 lineto closepath",
                "..........", ".########.", ".########.", ".##....##.",
                ".##....##.", ".########.", ".########.", "..........");
        painted("2 setlinewidth 2 setlinejoin "
                + "2 2 moveto 8 2 lineto 8 6 lineto 2 6 lineto closepath",
                "..........", ".#######..", ".########.", ".##....##.",
                ".##....##.", ".########.", ".#######..", "..........");
        painted("2 setlinewidth 2 setlinecap "
                + "2 2 moveto 8 2 lineto 8 6 lineto 2 6 lineto",
                "..........", ".########.", ".########.", ".......##.",
                ".......##.", ".########.", ".########.", "..........");
        painted("2 setlinewidth [ 5 2 ] 0 setdash "
                + "2 2 moveto 8 2 lineto 8 6 lineto 2 6 lineto closepath",
                "..........", "..#####...", "..#####...", ".##....##.",
                ".##....##.", ".###..###.", ".###..###.", "..........");
        painted("2 setlinewidth [ 30 1 ] 0 setdash "
                + "2 2 moveto 8 2 lineto 8 6 lineto 2 6 lineto closepath",
                "..........", "..#######.", ".########.", ".##....##.",
                ".##....##.", ".########.", ".########.", "..........");
        painted("2 setlinewidth 2 setlinecap "
                + "2 2 moveto 8 2 lineto 8 6 lineto 2 6 lineto closepath",
                "..........", ".########.", ".########.", ".##....##.",
                ".##....##.", ".########.", ".########.", "..........");
    }

    /** "points that are the same as the one before are passed over ..; A run of one point has no pieces." */
    private static void passedOver() {
        painted("2 setlinewidth "
                + "2 2 moveto 2 2 lineto 8 2 lineto 8 2 lineto 8 6 lineto 8 6 lineto",
                "..........", "..#######.", "..#######.", ".......##.",
                ".......##.", ".......##.", "..........", "..........");
        painted("2 setlinewidth "
                + "2 2 moveto 8 2 lineto 8 6 lineto 2 2 lineto 2 2 lineto closepath",
                "..........", "#########.", ".########.", "..####.##.",
                "....#####.", ".....####.", ".......##.", "........#.");
        painted("2 setlinewidth 2 setlinecap "
                + "2 2 moveto 2 2 lineto closepath 5 5 moveto 1 6 moveto 8 6 lineto closepath",
                "..........", "..........", "..........", "..........",
                "..........", ".#######..", ".#######..", "..........");
    }

    /** "With a mitre instead of that, if c 65536 >= C h h" */
    private static void mitres() {
        painted("3 setlinewidth "
                + "1 6 moveto 6 1 lineto 11 6 lineto",
                "....####....", "...######...", "..########..", ".##########.",
                "#####..#####", "####....###.", ".##......#..", "............");
        painted("3 setlinewidth 1 setmiterlimit "
                + "1 6 moveto 6 1 lineto 11 6 lineto",
                "....####....", "...######...", "..########..", ".##########.",
                "#####..#####", "####....###.", ".##......#..", "............");
        painted("2 setlinewidth "
                + "1 2 moveto 8 2 lineto 1 4 lineto",
                "..............", ".############.", ".#########....", ".#####........",
                ".##...........", "..............");
        painted("2 setlinewidth 7 setmiterlimit "
                + "1 2 moveto 8 2 lineto 1 4 lineto",
                "..............", ".#######......", ".#######......", ".#####........",
                ".##...........", "..............");
        painted("2 setlinewidth 8 setmiterlimit "
                + "1 2 moveto 8 2 lineto 1 4 lineto",
                "..............", ".############.", ".#########....", ".#####........",
                ".##...........", "..............");
        painted("2 setlinewidth 2 setlinejoin "
                + "1 2 moveto 8 2 lineto 1 4 lineto",
                "..............", ".#######......", ".#######......", ".#####........",
                ".##...........", "..............");
    }

    /** Caps of slanted lines, joins to either side. */
    private static void slanted() {
        painted("4 setlinewidth 2 setlinecap "
                + "4 4 moveto 10 8 lineto",
                "...............", "...#...........", "...##..........", "..#####........",
                ".#######.......", "...#######.....", "....#######....", "......#######..",
                ".......#####...", ".........##....", "..........#....", "...............");
        painted("4 setlinewidth 2 setlinecap "
                + "10 8 moveto 4 4 lineto",
                "...............", "...#...........", "...##..........", "..#####........",
                ".#######.......", "...#######.....", "....#######....", "......#######..",
                ".......#####...", ".........##....", "..........#....", "...............");
        painted("3 setlinewidth 2 setlinecap "
                + "4 9 moveto 9 3 lineto",
                "..............", "........##....", ".......####...", ".......####...",
                "......####....", ".....####.....", "....####......", "...####.......",
                "..####........", "..####........", "...##.........", "..............");
        painted("3 setlinewidth 2 setlinecap "
                + "9 3 moveto 4 9 lineto",
                "..............", "........##....", ".......####...", ".......####...",
                "......####....", ".....####.....", "....####......", "...####.......",
                "..####........", "..####........", "...##.........", "..............");
        painted("6 setlinewidth 2 setlinejoin "
                + "3 3 moveto 10 3 lineto 10 9 lineto",
                "...#######.....", "...########....", "...#########...", "...##########..",
                "...##########..", "...##########..", ".......######..", ".......######..",
                ".......######..", "...............");
        painted("6 setlinewidth 2 setlinejoin "
                + "3 7 moveto 10 7 lineto 10 1 lineto",
                "...............", ".......######..", ".......######..", ".......######..",
                "...##########..", "...##########..", "...##########..", "...#########...",
                "...########....", "...#######.....", "...............");
        painted("6 setlinewidth 2 setlinejoin "
                + "10 9 moveto 10 3 lineto 3 3 lineto",
                "...#######.....", "...########....", "...#########...", "...##########..",
                "...##########..", "...##########..", ".......######..", ".......######..",
                ".......######..", "...............");
        painted("5 setlinewidth 2 setlinejoin "
                + "2 8 moveto 8 4 lineto 14 9 lineto",
                "................", "................", "......####......", "....#######.....",
                "...##########...", ".#############..", ".##############.", "..#####.#######.",
                "..####...#####..", "...#.......###..", "............#...", "................");
        painted("5 setlinewidth 2 setlinejoin "
                + "2 4 moveto 8 8 lineto 14 3 lineto",
                "................", "............#...", "...#.......###..", "..####...#####..",
                "..#####.#######.", ".##############.", ".#############..", "...##########...",
                "....#######.....", "......####......", "................", "................");
        painted("5 setlinewidth "
                + "2 4 moveto 8 8 lineto 14 3 lineto",
                "................", "............#...", "...#.......###..", "..####...#####..",
                "..#####.#######.", ".##############.", ".#############..", "...##########...",
                "....#######.....", "......####......", ".......##.......", "................");
        painted("5 setlinewidth "
                + "2 8 moveto 8 4 lineto 14 9 lineto",
                "................", ".......##.......", "......####......", "....#######.....",
                "...##########...", ".#############..", ".##############.", "..#####.#######.",
                "..####...#####..", "...#.......###..", "............#...", "................");
    }

    /** "each subpath is a row of points, closed or open" */
    private static void manyRows() {
        painted("1 setlinewidth "
                + "1 1 moveto 6 1 lineto 6 6 lineto closepath 9 1 moveto 14 1 lineto 14 6 lineto",
                "######...#####..", ".#...#.......#..", "..#..#.......#..", "...#.#.......#..",
                "....##.......#..", ".....#.......#..", "................", "................");
        painted("1 setlinewidth "
                + "9 1 moveto 14 1 lineto 14 6 lineto 1 1 moveto 6 1 lineto 6 6 lineto closepath",
                "######...#####..", ".#...#.......#..", "..#..#.......#..", "...#.#.......#..",
                "....##.......#..", ".....#.......#..", "................", "................");
        painted("1 setlinewidth "
                + "2 2 moveto 8 5 lineto 4 7 lineto 2 2 lineto closepath",
                "..........", ".#........", "..##......", "..#.##....",
                "..##..##..", "...#..##..", "...###....", "..........",
                "..........");
        painted("1 setlinewidth "
                + "2 2 moveto 8 5 lineto 4 7 lineto 2 2 lineto",
                "..........", "..........", "..##......", "..#.##....",
                "..##..##..", "...#..##..", "...###....", "..........",
                "..........");
        // Each stroke begins anew, whatever the dashes of the one before.
        painted("[ 2 1 ] 2 setdash 0 0.5 moveto 9 0.5 lineto stroke [ 2 1 ] 0 setdash 0 1.5 moveto 9 1.5 lineto",
                ".##.##.##", "##.##.##.");
        painted("[ 3 2 1 ] 3 setdash 0 0.5 moveto 9 0.5 lineto stroke [ 2 ] 0 setdash 0 1.5 moveto 9 1.5 lineto",
                "..#...##.", "##..##..#");
    }

    /** "or a half width above 4194304 .. looked at first" */
    private static void halfWidths() {
        String line = "1 1 moveto 5 5 lineto stroke";
        Probe.due("the greatest half width", error("128 setlinewidth " + line), 0);
        Probe.due("one unit more", error(unit(8388609) + "setlinewidth " + line), 12);
        Probe.due("of the other sign", error("-128 setlinewidth " + line), 0);
        Probe.due("by SCALE", error("2 2 scale 64 setlinewidth " + line), 0);
        Probe.due("by SCALE one unit more", error("2 2 scale " + unit(4194305) + "setlinewidth " + line), 12);
        Probe.due("without a path", error("128.1 setlinewidth stroke"), 12);
        Probe.due("without a path, as great as may be", error("128 setlinewidth stroke"), 0);
        Probe.due("the greatest width of all", error("32767 setlinewidth 32767 32767 scale stroke"), 12);
    }

    /** "their lengths and offset (v SCALE / 65536 ROUNDED), LIMIT above 536870912" */
    private static void dashLengths() {
        String line = "1 1 moveto 5 5 lineto stroke";
        Probe.due("the longest dash", error("[ 8192 ] 0 setdash " + line), 0);
        Probe.due("one unit more", error("[ 1 8192.00002 ] 0 setdash " + line), 12);
        Probe.due("the last one of eight", error("[ 1 1 1 1 1 1 1 8192.00002 ] 0 setdash " + line), 12);
        Probe.due("the greatest offset", error("[ 1 ] 8192 setdash " + line), 0);
        Probe.due("one unit more", error("[ 1 ] 8192.00002 setdash " + line), 12);
        Probe.due("by SCALE", error("[ 4096 ] 4096 setdash 2 2 scale " + line), 0);
        Probe.due("by SCALE one unit more", error("[ 4096.00002 ] 0 setdash 2 2 scale " + line), 12);
        Probe.due("an offset by SCALE", error("[ 1 ] 4096.00002 setdash 2 2 scale " + line), 12);
        Probe.due("without a path", error("[ 8192.00002 ] 0 setdash stroke"), 12);
        Probe.due("an offset of no dashes", error("[ ] 32767 setdash " + line), 0);
    }

    /** "if all lengths are 0 then, there are no dashes" */
    private static void noDashes() {
        String small = "0.25 0.25 scale [ " + unit(1) + "] 0 setdash ";
        Probe p = new Probe(12, 1);
        // A quarter of a unit is rounded to 0, half a unit to 1.
        Probe.due("stroke", p.run("[ 0.25 0 0 0.25 0 0 ] setmatrix 4 setlinewidth [ " + unit(1)
                + "] 0 setdash 0 2 moveto 48 2 lineto stroke"), 0);
        Probe.due("a whole line", p.row(0), "############");
        Probe.due("half a unit", error(small.replace("0.25", "0.5") + "0 0 moveto 9 9 lineto stroke"), 12);
        Probe.due("a quarter of one", error(small + "0 0 moveto 9 9 lineto stroke"), 0);
        Probe.due("without SCALE", p.run("[ 1 0 0 0 0 0.5 ] setmatrix [ 1 ] 5 setdash 0 0 moveto 12 0 lineto stroke"), 0);
        Probe.due("a whole line", p.row(0), "############");
    }

    /** "(LIMIT above 2000 points of all rows together)", also of those that are passed over */
    private static void manyPoints() {
        Probe.due("2000 points", error("1 1 moveto 1999 { 1 1 lineto } repeat stroke"), 0);
        Probe.due("2001 points", error("1 1 moveto 2000 { 1 1 lineto } repeat stroke"), 12);
        Probe.due("closed", error("1 1 moveto 1999 { 1 1 lineto } repeat closepath stroke"), 0);
        Probe.due("of all rows", error("1 1 moveto 1 1 lineto 2 2 moveto 1997 { 2 2 lineto } repeat stroke"), 0);
        Probe.due("one too many", error("1 1 moveto 1 1 lineto 2 2 moveto 1998 { 2 2 lineto } repeat stroke"), 12);
        Probe.due("a point alone counts", error("2 2 moveto 1998 { 2 2 lineto } repeat 1 1 moveto stroke"), 0);
        Probe.due("one too many", error("2 2 moveto 1999 { 2 2 lineto } repeat 1 1 moveto stroke"), 12);
        Probe.due("fill has no such limit", error("1 1 moveto 2000 { 1 1 lineto } repeat fill"), 0);
    }

    /** "for more than 2000 pieces" */
    private static void manyPieces() {
        // 1000 lines round and round a triangle have 1000 sides and 999 joins.
        String zigzag = "0 0 moveto 333 { 9 9 lineto 0 9 lineto 0 0 lineto } repeat 5 0 lineto ";
        Probe.due("1999 pieces", error(zigzag + "stroke"), 0);
        Probe.due("2000 pieces", error(zigzag + "0 0 moveto 1 1 lineto stroke"), 0);
        Probe.due("2001 pieces", error(zigzag + "0 0 moveto 1 1 lineto 5 5 moveto 6 6 lineto stroke"), 12);
        Probe.due("2001 pieces with caps", error("2 setlinecap " + zigzag + "stroke"), 12);
        String lines = "0 0 moveto %1 { 1 0 rlineto } repeat stroke";
        Probe.due("1998 sides and two caps", error("2 setlinecap " + lines.replace("%1", "1998")), 0);
        Probe.due("1999 sides and two caps", error("2 setlinecap " + lines.replace("%1", "1999")), 12);
        Probe.due("1999 sides", error(lines.replace("%1", "1999")), 0);
        // A closed row of two points has two sides; 1000 of them have 2000 points.
        Probe.due("2000 sides", error("1000 { 0 0 moveto 1 1 lineto closepath } repeat stroke"), 0);
        // Dashes of a line: each one is a side.
        Probe.due("2000 dashes", error("[ 1 ] 0 setdash " + PLAIN + "0 0 moveto 3999 0 lineto stroke"), 0);
        Probe.due("2001 dashes", error("[ 1 ] 0 setdash " + PLAIN + "0 0 moveto 4001 0 lineto stroke"), 12);
        Probe.due("a last dash of one unit", error("[ 1 ] 0 setdash " + PLAIN + "0 0 moveto 4000.00002 0 lineto stroke"), 12);
        Probe.due("a last dash of none", error("[ 1 ] 0 setdash " + PLAIN + "0 0 moveto 4000 0 lineto stroke"), 0);
    }

    /** "The dash that is there where a run begins, and each further one, counts for the 20000." */
    private static void manyDashes() {
        // Without length dashes have no pieces; behind the offset half a gap is left, then two each.
        String dashes = PLAIN + "[ 0 1 ] 0.5 setdash -5000 0 moveto ";
        String shortRun = "0 5 moveto 0.25 5 lineto ";
        Probe.due("19999", error(dashes + "4999.5 0 lineto stroke"), 0);
        Probe.due("20000", error(dashes + "4999.5 0 lineto " + shortRun + "stroke"), 0);
        Probe.due("20001", error(dashes + "4999.5 0 lineto " + shortRun + shortRun + "stroke"), 12);
        Probe.due("20001 in one run", error(dashes + "4999.50002 0 lineto stroke"), 12);
        // A dash that is as long as what is left of the offset is passed: each run begins with a gap.
        String even = PLAIN + "[ 0 1 ] 0 setdash -5000 0 moveto ";
        Probe.due("19999 in one run", error(even + "5000 0 lineto stroke"), 0);
        Probe.due("20000 in two runs", error(even + "5000 0 lineto " + shortRun + "stroke"), 0);
        Probe.due("20001 in three runs", error(even + "5000 0 lineto " + shortRun + shortRun + "stroke"), 12);
        Probe.due("20001 in one run", error(even + "5000.00002 0 lineto stroke"), 12);
        Probe.due("of each stroke alone", error(even + "5000 0 lineto stroke -5000 0 moveto 5000 0 lineto stroke"), 0);
        Probe.due("pieces of each stroke alone", error("2 { 0 0 moveto 1500 { 1 0 rlineto } repeat stroke } repeat"), 0);
        // Of seven lengths one has a length: fourteen dashes and gaps for each four pixels. Behind seven runs of
        // one dash each the last one, which goes over a point, is the 20000th; behind eight it is one too many.
        String last = "[ 2 0 0 0 0 0 0 ] 0 setdash %1 { 0 50 moveto 1 50 lineto } repeat "
                + "-5712 0.5 moveto 1 0.5 lineto 2 0.5 lineto";
        painted(last.replace("%1", "7"), "##......");
        Probe.due("one too many", error(PLAIN + last.replace("%1", "8") + " stroke"), 12);
        // One dash with many points.
        Probe p = new Probe(100, 1);
        p.run(PLAIN + "[ 50 8000 ] 0 setdash 0 0.5 moveto 1 1 100 { 0.5 lineto } for stroke");
        Probe.due("a dash over fifty points", p.machine.count(0, 0), 50);
        p.run(PLAIN + "[ 5000 1 ] 0 setdash 0 0.5 moveto 1999 { 0.05 0 rlineto } repeat stroke");
        Probe.due("a dash over 2000 points", p.machine.count(0, 0), 100);
    }

    /** "stroke: the path FLATTENED (LIMIT)" */
    private static void flattenedStrokes() {
        String curve = PLAIN + "0 setflat 0 0 moveto 0 8000 8000 8000 8000 0 curveto ";
        Probe.due("1025 points", error(curve + "stroke"), 12);
        Probe.due("of pieces", error(curve + "gsave 100 setflat stroke grestore"), 0);
        Probe.due("2000 points of a flat curve", error(PLAIN + "0 0 moveto 1998 { 1 1 lineto } repeat "
                + "1 1 1 1 1 1 curveto stroke"), 0);
        Probe.due("2001 points", error(PLAIN + "0 0 moveto 1999 { 1 1 lineto } repeat 1 1 1 1 1 1 curveto stroke"), 12);
    }

    /** A stroke that fails has painted nothing, and the path is there still; else it is gone. */
    private static void whatFails() {
        Probe p = new Probe();
        p.run(PLAIN + "0 5.5 moveto 16 5.5 lineto 8192 0 moveto 8192 5 lineto stroke");
        Probe.due("LIMIT", p.machine.error(), 12);
        Probe.due("nothing is painted", p.machine.count(5, 0), 0);
        Probe.due("the path stays", p.machine.depth(4), 4);
        p.run(PLAIN + "0 5.5 moveto 16 5.5 lineto 8191 0 moveto 8191 5 lineto stroke");
        Probe.due("no LIMIT", p.machine.error(), 0);
        Probe.due("painted", p.machine.count(5, 0), 16);
        Probe.due("the path is gone", p.machine.depth(4), 0);
        p.run(PLAIN + "0 0 moveto 8 0 lineto 8 16 lineto 0 16 lineto clip newpath 0 5.5 moveto 16 5.5 lineto stroke");
        Probe.due("within the clip", p.machine.count(5, 0), 8);
        // Pieces are filled one after the other: what two of them cover is painted, too.
        p.run(PLAIN + "4 setlinewidth 2 5 moveto 9 5 lineto 2 5 lineto stroke");
        Probe.due("covered twice", p.machine.count(5, 0), 7);
    }

    /** "setlinewidth (its size) ..; setlinecap (0 none, 2 square), setlinejoin .. (RANGE for others) .." */
    private static void settings() {
        Probe.leaves("-3 setlinewidth currentlinewidth 0 setlinewidth currentlinewidth", "196608u 0u");
        Probe.leaves("-32767 setlinewidth currentlinewidth", "2147418112u");
        for (String op : new String[] {"setlinecap", "setlinejoin"}) {
            Probe.leaves("0 " + op + " 2 " + op, "");
            Probe.leaves("1 " + op, "1 error 4");
            Probe.leaves("-1 " + op, "-1 error 4");
            Probe.leaves("3 " + op, "3 error 4");
            Probe.leaves("2147483647 " + op, "2147483647 error 4");
            Probe.leaves("2.0 " + op, "131072u error 3");
        }
        Probe.leaves("1 setmiterlimit 100 setmiterlimit 1.0 setmiterlimit 100.0 setmiterlimit", "");
        Probe.leaves("0.99998 setmiterlimit", "65535u error 4");
        Probe.leaves("100.00002 setmiterlimit", "6553601u error 4");
        Probe.leaves("0 setmiterlimit", "0 error 4");
        Probe.leaves("-5 setmiterlimit", "-5 error 4");
        Probe.leaves("40000 setmiterlimit", "40000 error 4");
        Probe.leaves("[ ] 0 setdash { 1 2 } 3 setdash [ 1 2 3 4 5 6 7 8 ] 0 setdash [ 0 0.00002 ] 0.5 setdash", "");
        Probe.leaves("[ 1 2 3 4 5 6 7 8 9 ] 0 setdash", "[9] 0 error 4");
        Probe.leaves("[ null 2 3 4 5 6 7 8 9 ] 0 setdash", "[9] 0 error 4");
        Probe.leaves("[ 1 null ] 0 setdash", "[2] 0 error 3");
        Probe.leaves("[ -1 null ] 0 setdash", "[2] 0 error 4");
        Probe.leaves("[ null -1 ] 0 setdash", "[2] 0 error 3");
        Probe.leaves("[ 32768 null ] 0 setdash", "[2] 0 error 4");
        Probe.leaves("[ 32767 ] 32767 setdash", "");
        Probe.leaves("[ 32768 ] 0 setdash", "[1] 0 error 4");
        Probe.leaves("[ -0.00002 ] 0 setdash", "[1] 0 error 4");
        Probe.leaves("[ 0 ] 0 setdash", "[1] 0 error 4");
        Probe.leaves("[ 0 0 0 ] 0 setdash", "[3] 0 error 4");
        Probe.leaves("[ 1 ] -0.00002 setdash", "[1] -1u error 4");
        Probe.leaves("[ ] -1 setdash", "[0] -1 error 4");
        Probe.leaves("[ 1 ] 32768 setdash", "[1] 32768 error 4");
        Probe.leaves("[ null ] 32768 setdash", "[1] 32768 error 3");
        // What is refused changes nothing; the array's values are taken, not the array.
        painted("[ 2 1 ] 0 setdash { [ 3 -1 ] 0 setdash } stopped { [ 1 ] -1 setdash } stopped 0 0.5 moveto 9 0.5 lineto",
                "##.##.##.");
        painted("/d [ 2 1 ] def d 0 setdash d 0 9 put 0 0.5 moveto 9 0.5 lineto", "##.##.##.");
        painted("[ 2 1 ] 0 setdash [ ] 5 setdash 0 0.5 moveto 9 0.5 lineto", "#########");
    }
}
