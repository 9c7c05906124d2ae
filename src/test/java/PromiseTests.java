/** The promises one by one: ordinary inputs, the edges that the document names, wrong inputs. */
public final class PromiseTests extends Check {
    public static void main(String[] args) {
        promise1();
        promise2and3();
        promise4();
        systemsFaultsOfEachKind();
        systemsLongTexts();
        promise5();
        promise6();
        promise7and8();
        promise9();
        tabletFaultsOfEachKind();
        tabletLeastFaultOfAToken();
        tabletLongTexts();
        promise10and11();
        promise12();
        promise13();
        promise14();
        promise15();
        promise16and17();
        promise18();
        promise19and20();
        matchTakesTheFirst();
        promise21();
        finish("PromiseTests");
    }

    private static void promise1() {
        ClayAccounts x = new ClayAccounts();
        due("NONE", ClayAccounts.NONE, -1);
        for (int what = 0; what <= 5; what++) {
            due("count(" + what + ") of a new object", x.count(what), 0);
        }
        due("fault of a new object", x.fault(), 0);
        due("matched of a new object", x.matched(0), -1);
        due("match of a new object", x.match(), 0);
        due("octet of a new object", orThrows(() -> x.octet(0)), THROWS);
        ClayAccounts y = withUnits(UNITS);
        due("a new object beside another one", new ClayAccounts().count(0), 0);
        due("that other one", y.count(0), 2);
    }

    private static void promise2and3() {
        ClayAccounts x = new ClayAccounts();
        for (int n = 20; n <= 440; n += 20) {
            due("feed", x.feed(-1, 0, 1, 2, 3), n);
        }
        due("feed of a full tape", x.feed(0, 0, 0, 0, 0), -1);
        due("count of a full tape", x.count(4), 440);
        due("end beyond the tape", x.end(441), false);
        due("end of all", x.end(440), true);
        due("end below 0", x.end(-1), false);
        due("end of least int", x.end(Integer.MIN_VALUE), false);
        due("end of greatest int", x.end(Integer.MAX_VALUE), false);
        due("end of 421", x.end(421), true);
        due("feed with 421", x.feed(0, 0, 0, 0, 0), -1);
        due("count stays", x.count(4), 421);
        due("end of 420", x.end(420), true);
        due("feed with 420", x.feed(0, 0, 0, 0, 0), 440);
        due("end of 0", x.end(0), true);
        due("end of 1 of none", x.end(1), false);
        // "system a:b;" byte by byte, the highest first.
        due("feed of a text", x.feed(0x73797374, 0x656d2061, 0x3a623b20, 0x20202020, 0x20202020), 20);
        due("systems of that", x.systems(), 1);
        // Bytes above 127 stay what they are and are no TOKEN.
        x.feed(0xffffffff, 0, 0, 0, 0);
        due("systems of bytes 255", x.systems(), -1);
    }

    private static void promise4() {
        ClayAccounts x = withUnits(UNITS);
        due("tape is empty", x.count(4), 0);
        due("tablet", tablet(x, "1 gur;"), 0);
        due("fragment", fragment(x, "1", 0, 5), 0);
        due("fragment", fragment(x, "gur;", 99999994, 0), 1);
        due("match", x.match(), 1);
        due("sure", x.count(3), 1);
        x.write(0, 10);
        due("systems with a FAULT", systems(x, "system a: b"), -12);
        due("tape is empty behind a FAULT", x.count(4), 0);
        due("SYSTEMS stay", x.count(0), 2);
        due("TABLETS stay", x.count(1), 1);
        due("MATCH stays", x.matched(0), 1);
        due("the VALUE stays", orThrows(() -> x.line(0, 0, 3)), 300);
        due("other systems", systems(x, "system a: gur;"), 1);
        due("no TABLETS", x.count(1), 0);
        due("no lines", x.lines(0), -1);
        due("FRAGMENTS stay", x.count(2), 2);
        due("no MATCH", x.matched(0), -1);
        due("no SURE pairs", x.count(3), 0);
        dueOut(x, "1 ban");
        due("join with the new SYSTEMS", x.join(0, 1), 2);
        due("systems without gur", systems(x, "system a: mina;"), 1);
        due("join without gur", x.join(0, 1), 1);
    }

    private static void systemsFaultsOfEachKind() {
        dueSystems("", -1, 1);
        dueSystems("  \n ", -5, 1);
        dueSystems("system", -7, 1);
        dueSystems("system a:b; ", 1, 0);
        dueSystems("\nsystem\na\n:\nb\n;\n", 1, 0);
        dueSystems("system\ta:b;", -7, 1);
        dueSystems("system a:b;x", -12, 1);
        dueSystems("system a:b;;", -12, 1);
        dueSystems("system a:b.", -11, 1);
        dueSystems("system a;b;", -9, 1);
        dueSystems("system a b;", -10, 1);
        dueSystems("system a:;", -10, 1);
        dueSystems("system 5:b;", -8, 1);
        dueSystems("system a:5;", -10, 1);
        dueSystems("system a:b c;", -12, 1);
        dueSystems("system a:b 5;", -13, 1);
        dueSystems("system a:b 5 5;", -14, 1);
        dueSystems("systema:b;", -1, 1);
        dueSystems("system a:b5c;", -10, 1);
        dueSystems("system a:b 5c;", -12, 1);
        dueSystems("system a:b 5?c;", -13, 1);
        dueSystems("system a:b 123 c;", -12, 1);
        dueSystems("system a:b 12 c3;", -15, 1);
        dueSystems("system a:system;", -10, 1);
        dueSystems("system a:total;", -10, 1);
        dueSystems("system a:b 5 grand;", -14, 1);
        dueSystems("system grand:b;", -8, 1);
        dueSystems("system system:b;", -8, 1);
        dueSystems("system a:b 2 c;", 1, 0);
        dueSystems("system a:b 02 c;", 1, 0);
        dueSystems("system a:b 60 c;", 1, 0);
        dueSystems("system a:b 0 c;", -12, 2);
        dueSystems("system a:b 1 c;", -12, 2);
        dueSystems("system a:b 61 c;", -12, 2);
        dueSystems("system a:b 99", -12, 2);
        dueSystems("system a:a;", -10, 3);
        dueSystems("system a:b 2 a;", -14, 3);
        dueSystems("system a:b 2 b;", -14, 3);
        dueSystems("system a:b;system a:c;", -19, 3);
        dueSystems("system a:b;system b:c;", -19, 3);
        dueSystems("system a:b;system c:a;", -21, 3);
        dueSystems("system a:b;system c:b;", -21, 3);
        dueSystems("system a:b 2 c 2 d 2 e 2 f;", 1, 0);
        dueSystems("system a:b 2 c 2 d 2 e 2 f 2 g;", -28, 4);
        dueSystems("system a:b 2 c 2 d 2 e 2 f 2 a;", -28, 4);
        dueSystems("system a:b 2 c 2 d 2 e 2 f 61 g;", -28, 2);
        dueSystems("system a:b 2 c 2 d 2 e 2 f 2", -28, 4);
        dueSystems("system a:b;system c:d;system e:f;", 3, 0);
        dueSystems("system a:b;system c:d;system e:f;system", -34, 4);
        dueSystems("system a:b;system c:d;system e:f;x", -34, 1);
        dueSystems("system abcdefgh:ijklmnop;", 1, 0);
        dueSystems("system abcdefghi:j;", -8, 1);
    }

    private static void systemsLongTexts() {
        String whole = "system a:b;";
        dueSystems(whole + blanks(389), 1, 0);
        dueSystems(whole + blanks(390), -401, 1);
        dueSystems(whole + blanks(429), -401, 1);
        dueSystems(blanks(389) + whole, 1, 0);
        dueSystems(blanks(390) + whole, -401, 1);
        dueSystems(blanks(400) + whole, -401, 1);
        dueSystems(whole + blanks(388) + "x" + blanks(5), -400, 1);
        dueSystems(whole + blanks(389) + "x", -401, 1);
        // A TOKEN that begins ahead of 400 is read whole: 'system' can come, 'systemx' can't.
        dueSystems(whole + blanks(388) + "system a:b;", -401, 1);
        dueSystems(whole + blanks(388) + "systemx a:b;", -400, 1);
        dueSystems("system a:" + blanks(388) + "bbbbbbbb;", -401, 1);
        dueSystems("system a:" + blanks(388) + "bbbbbbbbb;", -398, 1);
        dueSystems("system b:" + blanks(390) + "bx;", -401, 1);
        dueSystems("system b:" + blanks(390) + "b;", -400, 3);
        dueSystems("system a:" + blanks(386) + "b 61;", -398, 2);
        dueSystems("system a:" + blanks(388) + "b 61;", -400, 2);
        dueSystems("system a:" + blanks(389) + "b 61;", -401, 1);
    }

    private static void promise5() {
        ClayAccounts x = new ClayAccounts();
        due("fault ahead of any", x.fault(), 0);
        systems(x, "system a:a;");
        due("fault 3", x.fault(), 3);
        due("tablet without SYSTEMS", tablet(x, "1 b;"), -400);
        due("fault stays behind -400", x.fault(), 3);
        systems(x, UNITS);
        due("no fault", x.fault(), 0);
        tablet(x, "0 gur;");
        due("fault of a TABLET", x.fault(), 2);
        fragment(x, "0 gur;", 1, -1);
        due("fault behind fragment", x.fault(), 2);
        fragment(x, "0", 0, 5);
        fragment(x, "x", 99999994, 0);
        x.join(0, 1);
        x.match();
        due("fault behind join and match", x.fault(), 2);
        tablet(x, "1 gur;");
        due("fault behind a TABLET without one", x.fault(), 0);
        // Place 399 is told as -400 too, but as the place of a FAULT.
        due("systems with a FAULT at 399", systems(x, "system a:b;" + blanks(388) + "x"), -400);
        due("fault at 399", x.fault(), 1);
    }

    private static void promise6() {
        ClayAccounts x = withUnits("system a:b 2 c 60 d 7 e 02 f;system g:h;");
        int[] want = {5, 2, 60, 7, 2};
        for (int what = 0; what <= 4; what++) {
            int asked = what;
            due("system(0, " + what + ")", orThrows(() -> x.system(0, asked)), want[what]);
        }
        due("system(1, 0)", orThrows(() -> x.system(1, 0)), 1);
        due("system(1, 1)", orThrows(() -> x.system(1, 1)), -1);
        due("system(1, 4)", orThrows(() -> x.system(1, 4)), -1);
        due("system(1, 5)", orThrows(() -> x.system(1, 5)), THROWS);
        due("system(0, -1)", orThrows(() -> x.system(0, -1)), THROWS);
        due("system(2, 0)", orThrows(() -> x.system(2, 0)), THROWS);
        due("system(-1, 0)", orThrows(() -> x.system(-1, 0)), THROWS);
        due("system(least, greatest)", orThrows(() -> x.system(Integer.MIN_VALUE, Integer.MAX_VALUE)), THROWS);
    }

    private static void promise7and8() {
        ClayAccounts x = withUnits("system a:sila 10 ban 6 bariga 5 gur;system b:h;"
                + "system c:aaaaaaaa 60 bbbbbbbb 60 cccccccc 60 dddddddd 60 eeeeeeee;");
        due("write 634", x.write(0, 634), 18);
        dueOut(x, "2 gur 3 ban 4 sila");
        due("write of no SYSTEM", x.write(3, 1), -1);
        due("write of SYSTEM -1", x.write(-1, 1), -1);
        due("write 0", x.write(0, 0), -1);
        due("write -5", x.write(0, -5), -1);
        due("write least int", x.write(0, Integer.MIN_VALUE), -1);
        due("write greatest int", x.write(0, Integer.MAX_VALUE), -1);
        due("write 30000", x.write(0, 30000), -1);
        dueOut(x, "2 gur 3 ban 4 sila");
        due("write 29999", x.write(0, 29999), 28);
        dueOut(x, "99 gur 4 bariga 5 ban 9 sila");
        due("write 300", x.write(0, 300), 5);
        dueOut(x, "1 gur");
        due("write 10 of the one UNIT", x.write(1, 10), 4);
        dueOut(x, "10 h");
        due("write 100 of the one UNIT", x.write(1, 100), -1);
        due("write the greatest VALUE", x.write(2, 1295999999), 59);
        dueOut(x, "99 eeeeeeee 59 dddddddd 59 cccccccc 59 bbbbbbbb 59 aaaaaaaa");
        due("write one more", x.write(2, 1296000000), -1);
        due("write greatest int", x.write(2, Integer.MAX_VALUE), -1);
        due("octet -1", orThrows(() -> x.octet(-1)), THROWS);
        due("octet greatest", orThrows(() -> x.octet(Integer.MAX_VALUE)), THROWS);
    }

    private static void promise9() {
        ClayAccounts x = withUnits(UNITS);
        for (int t = 0; t < 8; t++) {
            due("tablet " + t, tablet(x, "1 gur;"), t);
            due("tape is empty", x.count(4), 0);
        }
        due("a ninth TABLET", tablet(x, "1 gur;"), -400);
        due("tape is empty behind -400", x.count(4), 0);
        due("a ninth TABLET with a FAULT", tablet(x, "x"), -400);
        due("count of TABLETS", x.count(1), 8);
        systems(x, UNITS);
        due("a FAULT", tablet(x, "x"), -1);
        due("tape is empty behind a FAULT", x.count(4), 0);
        due("a TABLET behind new SYSTEMS", tablet(x, "1 gur;"), 0);
    }

    private static void tabletFaultsOfEachKind() {
        dueTablet("", -1, 1);
        dueTablet(" \n", -3, 1);
        dueTablet("1gur;", -1, 1);
        dueTablet("1 gur;", 0, 0);
        dueTablet("\n1\ngur\n;\n", 0, 0);
        dueTablet("1 gur dates;", 0, 0);
        dueTablet("1 gur barley;", 0, 0);
        dueTablet("1 gur system;", -7, 1);
        dueTablet("1 gur grand;", -7, 1);
        dueTablet("1 total;", -3, 1);
        dueTablet("1 system;", -3, 1);
        dueTablet("1 gur sila;", -7, 1);
        dueTablet("1 gur dates wool;", -13, 1);
        dueTablet("1 gur dates 2 ban;", -13, 1);
        dueTablet("total 1 gur dates;", -13, 1);
        dueTablet("grand 1 gur dates;", -13, 1);
        dueTablet("total gur;", -7, 1);
        dueTablet("total total 1 gur;", -7, 1);
        dueTablet("system 1 gur;", -1, 1);
        dueTablet("gur;", -1, 1);
        dueTablet("dates;", -1, 1);
        dueTablet(";", -1, 1);
        dueTablet("1 gur;;", -7, 1);
        dueTablet("1 gur:", -6, 1);
        dueTablet("1 gur.", -6, 1);
        dueTablet("1 1 gur;", -3, 1);
        dueTablet("1 gur 1;", -8, 1);
        dueTablet("1 gur 123 ban;", -7, 1);
        dueTablet("1 gur ?2x ban;", -7, 1);
        dueTablet("1 gur dates?;", -12, 1);
        dueTablet("1 gur dates2;", -7, 1);
        dueTablet("1 gur abcdefghi;", -7, 1);
        // A NAME does not go on with ?, so a COUNT begins there.
        dueTablet("1 gur?;", -7, 1);
        dueTablet("1 gur? ban;", 0, 0);
        dueTablet("0 gur;", -1, 2);
        dueTablet("00 gur;", -1, 2);
        dueTablet("0? gur;", -1, 2);
        dueTablet("05", -1, 2);
        dueTablet("0", -1, 2);
        dueTablet("0?;", -1, 2);
        dueTablet("99", -3, 1);
        dueTablet("99 gur;", 0, 0);
        dueTablet("4 bariga;", 0, 0);
        dueTablet("5 bariga;", -1, 2);
        dueTablet("9 sila;", 0, 0);
        dueTablet("10 sila;", -1, 2);
        dueTablet("?? sila;", -1, 2);
        dueTablet("? sila;", 0, 0);
        dueTablet("59 shekel;", 0, 0);
        dueTablet("?9 shekel;", 0, 0);
        dueTablet("60 grain;", -1, 2);
        dueTablet("6? grain;", -1, 2);
        dueTablet("99 mina;", 0, 0);
        dueTablet("1 foo;", -3, 3);
        dueTablet("99 foo;", -4, 3);
        dueTablet("1 dates;", -3, 3);
        dueTablet("1 barley;", -3, 3);
        dueTablet("1 gur 1 mina;", -9, 3);
        dueTablet("1 gur 1 gur;", -9, 3);
        dueTablet("1 ban 1 gur;", -9, 3);
        dueTablet("1 gur 1 bariga 1 ban 1 sila 1 sila;", -31, 3);
        // The COUNT is measured by the UNIT behind it, though that one can't stand there.
        dueTablet("1 gur 60 shekel;", -7, 2);
        dueTablet("1 sila 6 ban;", -8, 2);
        dueTablet("1 gur;".repeat(12), 0, 0);
        dueTablet("1 gur;".repeat(12) + "1 gur;", -73, 4);
        dueTablet("1 gur;".repeat(12) + "total 1 gur;", -73, 4);
        dueTablet("1 gur;".repeat(12) + "grand", -73, 4);
        dueTablet("?? gur ? bariga ? ban;", 0, 0);
        dueTablet("?? gur;?? gur;? gur;", -15, 4);
        dueTablet("?? gur;? gur;?? gur;", -14, 4);
    }

    private static void tabletLeastFaultOfAToken() {
        String twelve = "1 gur;".repeat(12);
        dueTablet(twelve + "x", -73, 1);
        dueTablet(twelve + ";", -73, 1);
        dueTablet(twelve + "123 gur", -73, 1);
        dueTablet(twelve + "0 gur;", -73, 2);
        dueTablet(twelve + "5 bariga;", -73, 2);
        dueTablet(twelve + "5 foo;", -73, 4);
        dueTablet(twelve + "5", -73, 4);
        dueTablet("?? gur;?? gur;?? gur;", -15, 4);
        dueTablet("?? gur;?? gur;0? gur;", -15, 2);
        dueTablet("?? gur;?? gur;6? shekel;", -15, 2);
        dueTablet("?? gur;?? gur;? foo;", -15, 4);
        dueTablet("?? gur;?? gur;?", -15, 4);
        dueTablet("?? gur;?? gur ?", -15, 4);
        dueTablet("?? gur;?? gur dates ? gur;", -21, 1);
    }

    private static void tabletLongTexts() {
        dueTablet("1 gur;" + blanks(294), 0, 0);
        dueTablet("1 gur;" + blanks(295), -301, 1);
        dueTablet(blanks(294) + "1 gur;", 0, 0);
        dueTablet(blanks(295) + "1 gur;", -301, 1);
        dueTablet("1 gur" + blanks(294) + "abcdefgh;", -301, 1);
        dueTablet("1 gur" + blanks(294) + "abcdefghi;", -300, 1);
        dueTablet("1 gur" + blanks(294) + "bariga;", -300, 1);
        dueTablet("1 gur" + blanks(295) + "bariga;", -301, 1);
        // The UNIT begins at 300, so none is behind this COUNT.
        dueTablet(blanks(297) + "60 shekel;", -301, 1);
        dueTablet(blanks(296) + "60 shekel;", -297, 2);
        dueTablet(blanks(298) + "0 shekel;", -299, 2);
        dueTablet("1 gur;".repeat(12) + blanks(229) + "1 gur;", -301, 1);
        dueTablet("1 gur;".repeat(12) + blanks(227) + "1 gur;", -300, 4);
    }

    private static void promise10and11() {
        ClayAccounts x = withUnits(UNITS);
        tablet(x, "2 gur 3 bariga 4 ban 5 sila dates; ? mina 1? shekel ? grain; total 12 mina; grand 99 gur;");
        due("lines", x.lines(0), 4);
        due("lines of none", x.lines(1), -1);
        due("lines of -1", x.lines(-1), -1);
        int[][] want = {{0, 0, 0, 2 * 300 + 3 * 60 + 4 * 10 + 5}, {0, 1, 3, -1}, {1, 1, 0, 12 * 3600}, {2, 0, 0, 99 * 300}};
        for (int k = 0; k < 4; k++) {
            for (int what = 0; what < 4; what++) {
                int line = k;
                int asked = what;
                due("line(0, " + k + ", " + what + ")", orThrows(() -> x.line(0, line, asked)), want[k][what]);
            }
        }
        due("line(0, 4, 0)", orThrows(() -> x.line(0, 4, 0)), THROWS);
        due("line(0, -1, 0)", orThrows(() -> x.line(0, -1, 0)), THROWS);
        due("line(1, 0, 0)", orThrows(() -> x.line(1, 0, 0)), THROWS);
        due("line(-1, 0, 0)", orThrows(() -> x.line(-1, 0, 0)), THROWS);
        due("line(0, 0, 4)", orThrows(() -> x.line(0, 0, 4)), THROWS);
        due("line(0, 0, -1)", orThrows(() -> x.line(0, 0, -1)), THROWS);
        ClayAccounts y = withUnits("system c:a 60 b 60 d 60 e 60 f;");
        tablet(y, "99 f 59 e 59 d 59 b 59 a;");
        due("the greatest VALUE", orThrows(() -> y.line(0, 0, 3)), 1295999999);
    }

    private static void dueReadings(String text, int want) {
        ClayAccounts x = withUnits(UNITS);
        tablet(x, text);
        due("readings of \"" + text + "\"", x.readings(0), want);
    }

    private static void promise12() {
        due("readings of none", new ClayAccounts().readings(0), -1);
        due("readings of -1", withUnits(UNITS).readings(-1), -1);
        dueReadings("1 gur;", 1);
        dueReadings("? gur;", 9);
        dueReadings("?? gur;", 90);
        dueReadings("?? gur;?? gur;", 8100);
        dueReadings("?0 gur;", 9);
        dueReadings("1? gur;", 10);
        dueReadings("? bariga;", 4);
        dueReadings("?? shekel;", 50);
        dueReadings("?? shekel;total ?? shekel;", 50);
        dueReadings("1 gur;total 1 gur;", 1);
        dueReadings("1 gur;total 2 gur;", 0);
        dueReadings("total 1 gur;", 0);
        dueReadings("grand 1 gur;", 0);
        dueReadings("1 gur;grand 1 gur;", 0);
        dueReadings("1 gur;total 1 gur;grand 1 gur;", 1);
        dueReadings("1 gur;total 1 gur;2 gur;total 2 gur;grand 3 gur;", 1);
        dueReadings("1 gur;total 1 gur;grand 1 gur;2 gur;total 2 gur;grand 3 gur;", 1);
        dueReadings("1 gur;total 1 gur;2 gur;total 3 gur;", 0);
        dueReadings("1 gur;1 mina;total 1 gur;total 1 mina;", 1);
        dueReadings("1 gur;1 mina;total 1 mina;2 gur;total 3 gur;grand 1 mina;grand 3 gur;", 1);
        dueReadings("3 bariga;3 bariga;total 1 gur 1 bariga;", 1);
        dueReadings("? ban;? ban;total ? bariga;", 5);
        dueReadings("? gur;? gur;? gur;total ? gur;", 84);
        dueReadings("99 gur;99 gur;total 99 gur;", 0);
        ClayAccounts x = withUnits("system c:a 60 b 60 d 60 e 60 f;");
        // What these make together does not fit into an int; by its lowest 32 bits it would.
        tablet(x, "99 f;99 f;99 f;34 f 24 e 6 d 28 b 17 a;total 1 a;");
        due("readings of a great sum", x.readings(0), 0);
    }

    private static void promise13() {
        ClayAccounts x = withUnits(UNITS);
        tablet(x, "? ban x;? ban y;total ? bariga;1 sila;");
        int[][] want = {{10, 50}, {10, 50}, {60, 60}, {1, 1}};
        for (int k = 0; k < 4; k++) {
            int line = k;
            due("least of LINE " + k, orThrows(() -> x.bound(0, line, false)), want[k][0]);
            due("greatest of LINE " + k, orThrows(() -> x.bound(0, line, true)), want[k][1]);
        }
        due("bound(0, 4)", orThrows(() -> x.bound(0, 4, true)), THROWS);
        due("bound(0, -1)", orThrows(() -> x.bound(0, -1, true)), THROWS);
        due("bound(1, 0)", orThrows(() -> x.bound(1, 0, false)), THROWS);
        due("bound(-1, 0)", orThrows(() -> x.bound(-1, 0, false)), THROWS);
        tablet(x, "? gur;5 gur;total 1 sila;");
        due("bound without a READING", orThrows(() -> x.bound(1, 0, false)), -1);
        due("bound of a whole LINE without a READING", orThrows(() -> x.bound(1, 1, true)), -1);
        tablet(x, "?? gur ? bariga ? sila;");
        due("least of a LINE with four", orThrows(() -> x.bound(2, 0, false)), 10 * 300 + 60 + 1);
        due("greatest of a LINE with four", orThrows(() -> x.bound(2, 0, true)), 99 * 300 + 4 * 60 + 9);
    }

    private static void promise14() {
        ClayAccounts x = withUnits(UNITS);
        tablet(x, "1? shekel a;?5 shekel b;total 1 mina 2 shekel;");
        due("digit(0, 0)", orThrows(() -> x.digit(0, 0)), 7);
        due("digit(0, 1)", orThrows(() -> x.digit(0, 1)), 4);
        due("digit(0, 2)", orThrows(() -> x.digit(0, 2)), THROWS);
        due("digit(0, -1)", orThrows(() -> x.digit(0, -1)), THROWS);
        due("digit(1, 0)", orThrows(() -> x.digit(1, 0)), THROWS);
        due("digit(-1, 0)", orThrows(() -> x.digit(-1, 0)), THROWS);
        tablet(x, "? ban;? ban;total ? bariga;");
        due("digits that differ", orThrows(() -> x.digit(1, 0)), -1);
        due("a digit that is sure", orThrows(() -> x.digit(1, 2)), 1);
        tablet(x, "? gur;total 1 sila;");
        due("digit without a READING", orThrows(() -> x.digit(2, 0)), -1);
        tablet(x, "1 gur;");
        due("digit without a ?", orThrows(() -> x.digit(3, 0)), THROWS);
        tablet(x, "2? gur;2? gur;total 40 gur;");
        due("digit 0", orThrows(() -> x.digit(4, 0)), 0);
    }

    private static void dueWrong(String text, int want) {
        ClayAccounts x = withUnits(UNITS);
        tablet(x, text);
        due("wrong of \"" + text + "\"", x.wrong(0), want);
    }

    private static void promise15() {
        due("wrong of none", new ClayAccounts().wrong(0), -1);
        due("wrong of -1", withUnits(UNITS).wrong(-1), -1);
        dueWrong("1 gur;", 0);
        dueWrong("1 gur;total 1 gur;", 0);
        dueWrong("1 gur;total 2 gur;", 1);
        dueWrong("total 1 gur;grand 2 gur;", 2);
        // A GRAND is of the TOTALS as they are written.
        dueWrong("1 gur;total 2 gur;grand 2 gur;", 1);
        dueWrong("1 gur;total 2 gur;grand 1 gur;", 2);
        dueWrong("? gur;total 2 gur;? gur;total 11 gur;", 1);
        dueWrong("? gur;total 2 gur;total 3 gur;grand 5 gur;grand 6 gur;", 2);
        dueWrong("1 gur;total ? gur;grand 3 gur;", 1);
        dueWrong("total 1 gur;".repeat(12), 12);
    }

    private static void promise16and17() {
        ClayAccounts x = new ClayAccounts();
        due("rows of none", x.rows(0), -1);
        due("a left EDGE below 0", fragment(x, "a", -1, 0), -1);
        due("tape is empty behind NONE", x.count(4), 0);
        due("a right EDGE below 0", fragment(x, "a", 0, Integer.MIN_VALUE), -1);
        due("a left EDGE too great", fragment(x, "a", 100000000, 0), -1);
        due("a right EDGE too great", fragment(x, "a", 0, Integer.MAX_VALUE), -1);
        due("a text too long", fragment(x, "a".repeat(201), 0, 0), -1);
        due("count of FRAGMENTS", x.count(2), 0);
        due("the greatest text and EDGES", fragment(x, "/".repeat(200), 99999999, 99999999), 0);
        due("tape is empty", x.count(4), 0);
        due("rows", x.rows(0), 201);
        due("no text", fragment(x, "", 0, 0), 1);
        due("rows of no text", x.rows(1), 1);
        due("any bytes", fragment(x, "\u00ff/\u0000/?", 0, 0), 2);
        due("rows of any bytes", x.rows(2), 3);
        for (int f = 3; f < 12; f++) {
            due("fragment", fragment(x, "a", 1, 1), f);
        }
        due("a 13th FRAGMENT", fragment(x, "a", 1, 1), -1);
        due("tape is empty behind the 13th", x.count(4), 0);
        due("rows(12)", x.rows(12), -1);
        due("rows(-1)", x.rows(-1), -1);
    }

    private static int join(String left, String right) {
        ClayAccounts x = withUnits(UNITS);
        fragment(x, left, 0, 1);
        fragment(x, right, 99999998, 0);
        return x.join(0, 1);
    }

    private static void promise18() {
        due("a SURE join", join("1 gur;/total", "2 gur;/3 gur;"), 2);
        due("a join with a READING", join("1? gur;/total", "2 gur;/1? gur;"), 2);
        due("a join without a READING", join("1 gur;/total", "2 gur;/4 gur;"), 1);
        due("a join that is no TABLET", join("1 gur", "gur;"), 1);
        due("a blank between the ROWS", join("1 gu", "r;"), 1);
        due("a blank behind the ROWS", join("1/gu", "gur/r;"), 1);
        due("other ROWS", join("1/", "gur;"), 0);
        due("empty ROWS", join("//1", "//gur;"), 2);
        due("a / is a ROW's end alone", join("1 gur;", "/"), 0);
        due("SAID of 300 bytes", join("1 gur;" + blanks(194), blanks(98)), 2);
        due("SAID of 301 bytes", join("1 gur;" + blanks(194), blanks(99)), 1);
        due("SAID of 402 bytes", join("1 gur;" + blanks(194), blanks(200)), 1);
        ClayAccounts x = withUnits(UNITS);
        fragment(x, "1", 5, 99999994);
        fragment(x, "gur;", 5, 99999994);
        fragment(x, "gur;", 0, 99999999);
        fragment(x, "1", 99999999, 0);
        fragment(x, "1", 99999993, 6);
        due("join(0, 1)", x.join(0, 1), 2);
        due("join(1, 0)", x.join(1, 0), 1);
        due("an EDGE of 0", x.join(2, 3), 0);
        due("an EDGE of 0", x.join(3, 2), 0);
        due("EDGES that do not make it", x.join(0, 4), 0);
        due("EDGES that do not make it", x.join(4, 0), 0);
        due("the same", x.join(0, 0), -1);
        due("none such", x.join(0, 5), -1);
        due("none such", x.join(5, 0), -1);
        due("none such", x.join(-1, 0), -1);
        due("none such", x.join(Integer.MAX_VALUE, Integer.MIN_VALUE), -1);
        for (int t = 0; t < 8; t++) {
            tablet(x, "1 gur;");
        }
        due("join beside eight TABLETS", x.join(0, 1), 2);
        due("join makes no TABLET", x.count(1), 8);
    }

    private static void dueMatch(ClayAccounts x, int pairs, int sure, int... partners) {
        due("match", x.match(), pairs);
        due("sure pairs", x.count(3), sure);
        for (int f = 0; f < partners.length; f++) {
            due("matched(" + f + ")", x.matched(f), partners[f]);
        }
    }

    private static void promise19and20() {
        ClayAccounts x = withUnits(UNITS);
        dueMatch(x, 0, 0, -1);
        fragment(x, "1", 0, 7);
        dueMatch(x, 0, 0, -1);
        fragment(x, "x", 99999992, 0);
        due("ahead of the next match", x.matched(0), -1);
        dueMatch(x, 1, 0, 1, 0);
        fragment(x, "gur;", 99999992, 0);
        due("the latest MATCH stays", x.matched(0), 1);
        due("a FRAGMENT behind it", x.matched(2), -1);
        dueMatch(x, 1, 1, 2, -1, 0);
        // A SURE pair outweighs two that are not.
        ClayAccounts y = withUnits(UNITS);
        fragment(y, "x", 0, 7);
        fragment(y, "gur;", 99999992, 0);
        fragment(y, "1", 8, 7);
        fragment(y, "y", 0, 99999991);
        dueMatch(y, 1, 1, -1, 2, 1, -1);
        due("matched(-1)", y.matched(-1), -1);
        due("matched(4)", y.matched(4), -1);
        due("matched(12)", y.matched(12), -1);
        due("matched(least)", y.matched(Integer.MIN_VALUE), -1);
        systems(y, "system a:b;");
        due("matched behind systems", y.matched(1), -1);
        dueMatch(y, 2, 0, 1, 0, 3, 2);
    }

    private static void matchTakesTheFirst() {
        // Each one goes LEFT of each other one.
        ClayAccounts x = new ClayAccounts();
        for (int f = 0; f < 5; f++) {
            fragment(x, "", 5, 99999994);
        }
        dueMatch(x, 2, 0, 1, 0, 3, 2, -1);
        for (int f = 5; f < 12; f++) {
            fragment(x, "", 5, 99999994);
        }
        dueMatch(x, 6, 0, 1, 0, 3, 2, 5, 4, 7, 6, 9, 8, 11, 10);
        // 0 goes with 2 or 3, 1 with 2 alone: 0 has to leave 2 to it.
        ClayAccounts y = new ClayAccounts();
        fragment(y, "", 11, 12);
        fragment(y, "", 0, 12);
        fragment(y, "", 99999987, 0);
        fragment(y, "", 0, 99999988);
        dueMatch(y, 2, 0, 3, 2, 1, 0);
        // With one partner for two, the least FRAGMENT has it.
        ClayAccounts z = new ClayAccounts();
        fragment(z, "", 0, 12);
        fragment(z, "", 0, 12);
        fragment(z, "", 99999987, 0);
        dueMatch(z, 1, 0, 2, -1, 0);
    }

    private static void promise21() {
        ClayAccounts x = withUnits(UNITS);
        tablet(x, "1 gur;");
        tablet(x, "1 gur;");
        tablet(x, "1 gur;");
        fragment(x, "1", 0, 5);
        fragment(x, "gur;", 99999994, 0);
        fragment(x, "", 0, 0);
        fragment(x, "", 0, 0);
        x.match();
        x.feed(0, 0, 0, 0, 0);
        x.end(7);
        x.write(0, 300);
        int[] want = {2, 3, 4, 1, 7, 5};
        for (int what = 0; what < 6; what++) {
            due("count(" + what + ")", x.count(what), want[what]);
        }
        due("count(-1)", x.count(-1), -1);
        due("count(6)", x.count(6), -1);
        due("count(greatest)", x.count(Integer.MAX_VALUE), -1);
        due("count(least)", x.count(Integer.MIN_VALUE), -1);
    }
}
