/** save and restore, and the limits of the store. */
public final class SavesTest {
    public static void main(String[] args) {
        placesAndKeys();
        whatStays();
        invalid();
        graphics();
        loopsOverKeys();
        limits();
        changes();
        Probe.finish();
    }

    private static void placesAndKeys() {
        Probe.tells("/a [ 1 2 ] def save a 0 9 put a 0 get = restore a 0 get =", "9 1");
        Probe.tells("/k 1 def save /k 2 def /l 3 def k = restore k = { l } stopped = lasterror =",
                "2 1 true 5");
        Probe.tells("/k 1 def save currentdict /k undef restore k =", "1");
        Probe.tells("/a [ 1 ] def save a 0 2 put save a 0 3 put restore a 0 get = restore a 0 get =",
                "2 1");
        Probe.tells("/a [ 1 ] def save a 0 2 put save pop a 0 3 put restore a 0 get =", "1");
        Probe.tells("/d << /a 1 >> def save d /b 2 put d /a 3 put restore d length = d /a get =", "1 1");
        // Behind a restore a key that comes again comes last.
        Probe.tells("/d << /a 1 >> def save d /b 2 put restore d /c 3 put d /b 4 put d { pop = } forall",
                "a c b");
        Probe.tells("/p { 2 3 } def save /p load 0 9 put p = = restore p = =", "3 9 3 2");
    }

    private static void whatStays() {
        Probe.tells("/t (abc) def save t 0 88 put restore t =", "Xbc");
        Probe.tells("save (new) cvn exch restore =", "new");
        Probe.tells("save (abc) exch restore =", "abc");
    }

    private static void invalid() {
        Probe.tells("save dup restore restore", "error 15");
        Probe.tells("save save exch restore restore", "error 15");
        Probe.tells("save [ 1 ] exch restore", "error 15");
        Probe.tells("save (a) exch restore", "");
        Probe.tells("save (abc) 0 1 getinterval exch restore", "error 15");
        Probe.tells("save 1 dict exch restore", "error 15");
        Probe.tells("save 1 dict begin restore", "error 15");
        Probe.tells("save [ 1 2 ] cvx exch restore", "error 15");
        Probe.tells("/s save def [ /s load /restore cvx 1 ] cvx exec", "error 15");
        // The call is gone before its last value is done.
        Probe.tells("/s save def [ /s load /restore cvx ] cvx exec", "");
        Probe.tells("/s save def [ 1 ] { pop s restore } forall", "error 15");
        Probe.tells("/s save def 2 string { pop s restore } forall", "error 15");
        Probe.tells("/s save def << /FontMatrix matrix /BuildGlyph { } >> setfont s restore", "error 15");
        Probe.tells("/s save def << /FontMatrix matrix /BuildGlyph { } >> setfont gsave s restore",
                "error 15");
        Probe.tells("5 restore", "error 3");
        Probe.tells("restore", "error 1");
    }

    private static void graphics() {
        Probe.tells("0.5 setgray save 0.25 setgray restore currentgray =", "0.50000");
        Probe.tells("save 0.25 setgray gsave 0.75 setgray gsave restore currentgray =", "0.00000");
        Probe p = new Probe();
        p.run("gsave save gsave gsave restore");
        Probe.due("the save's copy goes, and those above it", p.machine.depth(3), 1);
        p.run("0.5 setgray save 0.25 setgray grestore currentgray grestore currentgray");
        Probe.due("a save's copy stays", p.machine.depth(3), 1);
        Probe.due("and is gone back to", p.machine.numberOf(0), 32768);
        p.run("save save");
        Probe.due("saves by number", p.machine.numberOf(0), 2);
        p.run("save restore save");
        Probe.due("that never comes again", p.machine.numberOf(0), 2);
        p.run("save");
        Probe.due("but from 1 since load", p.machine.numberOf(0), 1);
    }

    private static void loopsOverKeys() {
        Probe.tells("/d << /a 1 /b 2 >> def /s save def d { pop = d /c 3 put } forall s restore",
                "a b c");
        // The latest key goes by restore: the loop is at its end, though keys come again.
        Probe.tells("/d << /a 1 >> def save d /b 2 put d { pop dup = /b eq { restore d /c 3 put d /e 4 put } if } forall",
                "a b");
        Probe.tells("/d << /a 1 >> def save d /b 2 put d { pop = restore d /c 3 put exit } forall d length =",
                "a 2");
    }

    private static void limits() {
        Probe.tells("/n 0 def { { 1 dict pop /n n 1 add def } loop } stopped clear lasterror = n =",
                "14 1022");
        Probe.tells("/n 0 def { { 0 array pop /n n 1 add def } loop } stopped clear lasterror = n =",
                "14 16382");
        Probe.tells("32768 array length = 1 array", "32768 error 14");
        Probe.tells("65535 string length = 1 string length = 1 string", "65535 1 error 14");
        Probe.tells("/n 0 def { { currentdict n n put /n n 1 add def } loop } stopped clear lasterror = n =",
                "14 16383");
        Probe.tells("/t 8 string def /n 0 def { { n t cvs cvn pop /n n 1 add def } loop } stopped clear lasterror = n =",
                "14 8190");
        Probe.tells("save 20000 array pop restore 20000 array length =", "20000");
        Probe.tells("13 { save } repeat", "error 12");
        // Glyphs take the copies of their saves from the pile, but not the saves.
        Probe.tells("<< /FontMatrix matrix /BuildGlyph { pop pop save pop } >> setfont 0 0 moveto "
                + "15 { (a) show } repeat { (a) show } stopped = lasterror =", "true 14");
    }

    private static void changes() {
        String twice = "/a 20000 array def save 0 1 19999 { a exch 1 put } for "
                + "save 0 1 19999 { a exch 1 put } for ";
        Probe.tells(twice + "a 7 2 put { /a 5 def } stopped = lasterror = clear", "true 14");
        Probe.tells(twice + "restore a 7 3 put /a 5 def clear", "");
        // A change for the older save counts still when the newer one is gone.
        Probe.tells(twice + "restore 0 1 19999 { a exch 5 put } for save "
                + "0 1 19999 { a exch 6 put } for { /a 1 def } stopped = lasterror = clear", "true 14");
        Probe.tells("/a 20000 array def save 0 1 19999 { a exch 1 put } for save /b 10000 array def "
                + "0 1 9999 { b exch 1 put } for b 5 6 put clear", "");
    }
}
