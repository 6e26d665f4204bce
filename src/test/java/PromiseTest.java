/** Each promise of the document: ordinary inputs, its edges, wrong inputs; the answers worked out by hand. */
public final class PromiseTest {
    public static void main(String[] args) {
        surfacesAndTenants();
        days();
        theDayItself();
        whatWillBe();
        whereAsWhatByWhat();
        brooms();
        whatWasTold();
        sneezes();
        texts();
        spots();
        sheets();
        images();
        Due.end("PromiseTest");
    }

    private static void surfacesAndTenants() {
        promise01();
        promise02();
        promise03();
        promise04();
        promise05();
        promise06();
        promise07();
        promise08And09();
        promise10();
        promise11();
    }

    private static void days() {
        promise12();
        lastDay();
        promise13();
    }

    private static void whatWillBe() {
        promise14To16();
        promise17();
        promise18();
        promise19();
    }

    private static void whereAsWhatByWhat() {
        promise20();
        promise21();
        promise22();
        promise23();
        promise24();
    }

    private static void brooms() {
        promise25();
        promise26();
    }

    private static void whatWasTold() {
        promise27();
        promise28();
    }

    private static void sneezes() {
        promise29();
        promise30();
        promise31();
    }

    private static void texts() {
        promise32();
        promise33();
        promise34();
        faults();
    }

    private static void spots() {
        promise35();
        promise36();
    }

    private static void sheets() {
        promise37();
        promise38();
        promise39();
        promise40();
        promise41();
    }

    private static void images() {
        promise42And43();
        promise44();
        promise45();
        promise46();
    }

    private static void promise01() {
        DustLand x = new DustLand();
        int[] counts = {0, 0, 0, 0, 0, 0, 1, 0};
        for (int what = 0; what < counts.length; what++) Due.due("new: count " + what, x.count(what), counts[what]);
        for (int which = -1; which <= 6; which++) Due.due("new: status " + which, x.status(which), 0);
        for (int s = 0; s < 12; s++) Due.due("new: dust " + s, x.surface(s, 0), 0);
        Due.due("new: fall", x.law(0, 3), 3);
        Due.due("new: draught", x.law(1, 0), 0);
        for (int spot = 0; spot < 10; spot++) Due.due("new: spot " + spot, x.as(spot, 0), Due.MISSING);
        for (int s = 0; s < 4; s++) Due.due("new: sheet " + s, x.load(s), Due.MISSING);
        Due.due("new: image", x.undo(), Due.NONE);
        Due.due("new: tear", x.tear(), 0);
        Due.due("new: richest", x.now(5), -1);
        DustLand y = new DustLand();
        y.dust(0, 7);
        Due.due("one object leaves another alone", x.surface(0, 0), 0);
    }

    private static void promise02() {
        DustLand x = new DustLand();
        Due.due("dust(0, 9999)", x.dust(0, 9999), 0);
        Due.due("dust(0, 5)", x.dust(0, 5), 9999);
        Due.due("dust(11, 1)", x.dust(11, 1), 0);
        Due.due("dust(11, 0)", x.dust(11, 0), 1);
        Due.all("dust beyond", Due.BEYOND, x.dust(-1, 0), x.dust(12, 0), x.dust(0, -1), x.dust(0, 10000),
            x.dust(Due.LEAST, 0), x.dust(Due.MOST, 0), x.dust(0, Due.LEAST), x.dust(0, Due.MOST));
        Due.due("dust stays", x.surface(0, 0), 5);
    }

    private static void promise03() {
        DustLand x = Due.room("dust 4 77;cat at 4 marks 5;maid at 4 marks 9;lord at 4 marks 9;heir at 11");
        Due.due("surface(4, 0)", x.surface(4, 0), 77);
        Due.due("surface(4, 1): of several the least", x.surface(4, 1), 1);
        Due.due("surface(4, 2)", x.surface(4, 2), 7);
        Due.due("surface(4, 3)", x.surface(4, 3), 9);
        Due.due("surface(11, 1): a mark of 0 holds nothing", x.surface(11, 1), -1);
        Due.due("surface(11, 2)", x.surface(11, 2), 8);
        Due.due("surface(11, 3)", x.surface(11, 3), 0);
        Due.due("surface(0, 2)", x.surface(0, 2), 0);
        Due.all("surface beyond", Due.BEYOND, x.surface(-1, 0), x.surface(12, 0), x.surface(0, -1), x.surface(0, 4));
        Due.due("surface(0, 3) without tenants", new DustLand().surface(0, 3), 0);
    }

    private static void promise04() {
        DustLand x = new DustLand();
        Due.due("law(0, 99)", x.law(0, 99), 3);
        Due.due("law(0, 0)", x.law(0, 0), 99);
        Due.due("law(1, -3)", x.law(1, -3), 0);
        Due.due("law(1, 3)", x.law(1, 3), -3);
        Due.all("law beyond", Due.BEYOND, x.law(0, -1), x.law(0, 100), x.law(1, -4), x.law(1, 4), x.law(-1, 0), x.law(2, 0));
        Due.due("law(0, ) stays", x.law(0, 1), 0);
        Due.due("law(1, ) stays", x.law(1, 1), 3);
    }

    private static void promise05() {
        DustLand x = new DustLand();
        Due.all("tenant beyond", Due.BEYOND, x.tenant(-1, 0), x.tenant(7, 0), x.tenant(0, -1), x.tenant(0, 12));
        for (int t = 0; t < 8; t++) {
            Due.due("tenant " + t, x.tenant(t % 7, 11 - t), t);
            Due.due("its kind", x.of(t, 0), t % 7);
            Due.due("its surface", x.of(t, 1), 11 - t);
            Due.due("its goods", x.of(t, 2), 0);
            Due.due("its marks", x.of(t, 6), 0);
        }
        Due.due("a 9th", x.tenant(0, 0), Due.FULL);
        Due.due("a 9th of no kind", x.tenant(7, 0), Due.BEYOND);
        Due.due("a 9th nowhere", x.tenant(0, 12), Due.BEYOND);
        Due.due("tenants", x.count(1), 8);
    }

    private static void promise06() {
        DustLand x = Due.room("tenant;lord;maid;widow;bishop goods 2999;cat;heir at 7 goods 12 marks 40");
        int[] leaves = {3, 6, 1, 1, 3, 0, 7};
        int[] sweeps = {0, 0, 20, 10, 10, 5, 1};
        for (int t = 0; t < 7; t++) {
            Due.due("kind of " + t, x.of(t, 0), t);
            Due.due("leaves of " + t, x.of(t, 3), leaves[t]);
            Due.due("sweeps of " + t, x.of(t, 4), sweeps[t]);
        }
        x.dust(0, 99);
        Due.due("widow by 99", x.of(3, 3), 1);
        x.dust(0, 100);
        Due.due("widow by 100", x.of(3, 3), 5);
        Due.due("bishop by 100", x.of(4, 3), 7);
        Due.due("maid by 100", x.of(2, 3), 1);
        x.change(4, 2, 99999);
        Due.due("bishop with all goods", x.of(4, 3), 104);
        Due.due("of(6, 1)", x.of(6, 1), 7);
        Due.due("of(6, 2)", x.of(6, 2), 12);
        x.charter(6, 0, 3);
        x.charter(5, 0, 3);
        x.charter(6, 11, 1);
        Due.due("of(6, 5)", x.of(6, 5), 1 << 7 | 1 << 11);
        Due.due("of(5, 5)", x.of(5, 5), 1);
        Due.due("of(6, 6)", x.of(6, 6), 44);
        Due.all("of beyond", Due.BEYOND, x.of(-1, 0), x.of(7, 0), x.of(0, -1), x.of(0, 7), x.of(Due.MOST, 0), x.of(Due.LEAST, 0));
    }

    private static void promise07() {
        DustLand x = Due.room("cat at 2 goods 5");
        Due.due("change(0, 0, 6)", x.change(0, 0, 6), 5);
        Due.due("change(0, 0, 0)", x.change(0, 0, 0), 6);
        Due.due("change(0, 1, 11)", x.change(0, 1, 11), 2);
        Due.due("change(0, 1, 0)", x.change(0, 1, 0), 11);
        Due.due("change(0, 2, 99999)", x.change(0, 2, 99999), 5);
        Due.due("change(0, 2, 0)", x.change(0, 2, 0), 99999);
        String before = Due.look(x);
        Due.all("change beyond", Due.BEYOND, x.change(0, 0, 7), x.change(0, 0, -1), x.change(0, 1, 12), x.change(0, 1, -1),
            x.change(0, 2, 100000), x.change(0, 2, -1), x.change(1, 0, 0), x.change(-1, 0, 0), x.change(0, 3, 0), x.change(0, -1, 0));
        Due.same("change beyond", Due.look(x), before);
    }

    private static void promise08And09() {
        DustLand x = Due.room("cat at 2 marks 5;cat at 11");
        Due.due("mark(0, 2)", x.mark(0, 2), 5);
        Due.due("mark(1, 2)", x.mark(1, 2), 0);
        Due.due("charter(1, 2, 99)", x.charter(1, 2, 99), 0);
        Due.due("charter(1, 2, 0)", x.charter(1, 2, 0), 99);
        Due.due("charter(1, 11, 1)", x.charter(1, 11, 1), 0);
        Due.due("mark(1, 11)", x.mark(1, 11), 1);
        Due.due("mark(0, 11)", x.mark(0, 11), 0);
        Due.all("mark beyond", Due.BEYOND, x.mark(-1, 0), x.mark(2, 0), x.mark(0, -1), x.mark(0, 12));
        String before = Due.look(x);
        Due.all("charter beyond", Due.BEYOND, x.charter(-1, 0, 0), x.charter(2, 0, 0), x.charter(0, -1, 0), x.charter(0, 12, 0),
            x.charter(0, 2, -1), x.charter(0, 2, 100));
        Due.same("charter beyond", Due.look(x), before);
    }

    private static void promise10() {
        DustLand x = Due.room("cat at 2 marks 5;maid at 11;lord at 2");
        Due.due("swap(0, 1)", x.swap(0, 1), 1);
        Due.due("0 at", x.of(0, 1), 11);
        Due.due("1 at", x.of(1, 1), 2);
        Due.due("marks stay", x.mark(0, 2), 5);
        Due.due("swap(1, 2)", x.swap(1, 2), 0);
        Due.due("1 still at", x.of(1, 1), 2);
        Due.all("swap beyond", Due.BEYOND, x.swap(0, 0), x.swap(-1, 0), x.swap(0, -1), x.swap(3, 0), x.swap(0, 3));
    }

    private static void promise11() {
        DustLand x = Due.room("dust 0 30;dust 11 9000;dust 1 2000");
        Due.due("sneeze(11, 2)", x.sneeze(11, 2), 9000);
        Due.due("what is too much is lost", x.surface(1, 0), 9999);
        Due.due("nothing is left", x.surface(11, 0), 0);
        Due.due("sneeze(0, -1)", x.sneeze(0, -1), 30);
        Due.due("it went round", x.surface(11, 0), 30);
        Due.due("sneeze(11, 0)", x.sneeze(11, 0), 30);
        Due.due("to itself", x.surface(11, 0), 30);
        Due.due("sneeze(11, -11)", x.sneeze(11, -11), 30);
        Due.due("11 back", x.surface(0, 0), 30);
        Due.due("sneeze(0, 11)", x.sneeze(0, 11), 30);
        Due.due("11 on", x.surface(11, 0), 30);
        Due.all("sneeze beyond", Due.BEYOND, x.sneeze(-1, 0), x.sneeze(12, 0), x.sneeze(0, 12), x.sneeze(0, -12));
    }

    private static void promise12() {
        DustLand x = new DustLand();
        Due.all("go beyond", Due.BEYOND, x.go(0), x.go(41), x.go(-1), x.go(Due.MOST));
        Due.due("go(1)", x.go(1), 36);
        Due.due("go(40)", x.go(40), 41 * 36);
        Due.due("day", x.now(0), 41);
    }

    /** No 512 calls reach the last day; a longer run shows that it is looked at all the same. */
    private static void lastDay() {
        DustLand x = Due.room("fall 0");
        for (int i = 0; i < 2499; i++) x.go(40);
        Due.due("go(40) too far", x.go(40), Due.STATE);
        Due.due("sneezes(20)", x.sneezes(20), 0);
        Due.due("sneezes(20) too far", x.sneezes(20), Due.STATE);
        Due.due("go(0)", x.go(0), Due.BEYOND);
        Due.due("go(41)", x.go(41), Due.BEYOND);
        Due.due("sneezes(21)", x.sneezes(21), Due.BEYOND);
        Due.due("day", x.now(0), 99980);
        int z = x.count(6);
        Due.due("sneezes(20) too far", x.sneezes(20), Due.STATE);
        Due.due("no draw", x.count(6), z);
        Due.due("sneezes(18)", x.sneezes(18), 0);
        Due.due("sneezes(2) too far", x.sneezes(2), Due.STATE);
        Due.due("go(2) too far", x.go(2), Due.STATE);
        x.image();
        Due.due("go(1)", x.go(1), 0);
        x.undo();
        Due.due("sneezes(1)", x.sneezes(1), 0);
        Due.due("go(1) too far", x.go(1), Due.STATE);
        Due.due("sneezes(1) too far", x.sneezes(1), Due.STATE);
        Due.due("day", x.now(0), 99999);
        Due.due("status(4)", x.status(4), 7);
    }

    private static void promise13() {
        DustLand x = Due.room("cat at 1 goods 7 marks 4;maid goods 9;lord at 11 goods 9 marks 1;dust 3 50;dust 4 2");
        int[] due = {0, 52, 25, 1 << 1 | 1 << 11, 2, 1};
        for (int what = 0; what < due.length; what++) Due.due("now " + what, x.now(what), due[what]);
        Due.all("now beyond", Due.BEYOND, x.now(-1), x.now(6));
        DustLand full = Due.room("lord goods 9 marks 1;lord;lord at 2 marks 1;lord;lord;lord;lord;lord at 11 marks 1");
        Due.due("a day of eight", full.ahead(0, 1) + full.goods(7, 1), 3);
        Due.due("now(4) of eight", full.now(4), 255 & ~(1 | 1 << 2 | 1 << 7));
        Due.due("now(5): the first", full.now(5), 0);
        DustLand y = new DustLand();
        int[] empty = {0, 0, 0, 0, 0, -1};
        for (int what = 0; what < empty.length; what++) Due.due("now " + what + " without tenants", y.now(what), empty[what]);
    }

    private static void theDayItself() {
        draughtBlows();
        dustFallsAndIsLost();
        tenantsSweepAndKeep();
        tenantsLeaveMarks();
        rentsArePaid();
    }

    private static void draughtBlows() {
        DustLand x = Due.room("fall 0;draught 3;dust 11 109;dust 2 50;dust 0 9");
        x.go(1);
        Due.due("11 lost a tenth", x.surface(11, 0), 99);
        Due.due("2 got 10 and lost 5, all at once", x.surface(2, 0), 55);
        Due.due("5 got 5", x.surface(5, 0), 5);
        Due.due("of 9 none goes", x.surface(0, 0), 9);
        DustLand first = Due.room("fall 0;draught 1;dust 0 100;dust 11 50");
        first.go(1);
        Due.due("from and to surface 0", first.surface(0, 0), 95);
        Due.due("10 of 0", first.surface(1, 0), 10);
        DustLand y = Due.room("fall 0;draught -2;dust 1 100");
        y.go(1);
        Due.due("back round the room", y.surface(11, 0), 10);
        Due.due("what stays", y.surface(1, 0), 90);
    }

    private static void dustFallsAndIsLost() {
        DustLand x = Due.room("fall 99;dust 0 9950;dust 1 9901");
        x.go(1);
        Due.due("no more than 9999", x.surface(0, 0), 9999);
        Due.due("a fall of 99 and a draught of 0", x.surface(1, 0), 9999);
        Due.due("from 0 on", x.surface(2, 0), 99);
    }

    private static void tenantsSweepAndKeep() {
        // On one surface by numbers: 20 to the maid, 10 and 5 kept by the widow, 5 by the cat, 7 are left to the bishop.
        DustLand x = Due.room("fall 0;dust 5 42;maid at 5;widow at 5;cat at 5;bishop at 5;heir at 5;tenant at 5;lord at 5");
        x.go(1);
        Due.due("all is swept", x.surface(5, 0), 0);
        int[] goods = {0, 5, 0, 7, 0, 0, 0};
        for (int t = 0; t < goods.length; t++) Due.due("goods of " + t, x.of(t, 2), goods[t]);
        DustLand y = Due.room("fall 0;dust 1 9;widow at 1;dust 2 30;heir at 2;bishop at 3;dust 3 10");
        y.change(2, 2, 99995);
        y.go(1);
        Due.due("half of 9", y.of(0, 2), 4);
        Due.due("the heir sweeps 1", y.surface(2, 0), 29);
        Due.due("the heir keeps none, but has its rent", y.of(1, 2), 1);
        Due.due("goods are 99999 at most", y.of(2, 2), 99999);
    }

    private static void tenantsLeaveMarks() {
        DustLand x = Due.room("fall 0;lord at 1;tenant at 1 marks 10;cat at 2 marks 5;heir at 3 marks 95;maid at 4");
        x.charter(4, 1, 1);
        x.charter(2, 3, 50);
        x.go(1);
        Due.due("the lord: 6 more, then 1 less", x.mark(0, 1), 5);
        Due.due("the tenant: 1 less, then 3 more", x.mark(1, 1), 12);
        Due.due("who is elsewhere: 1 less, and none below 0", x.mark(4, 1), 0);
        Due.due("a cat leaves none", x.mark(2, 2), 5);
        Due.due("99 at most", x.mark(3, 3), 99);
        Due.due("1 less for the cat", x.mark(2, 3), 49);
        Due.due("the maid", x.mark(4, 4), 1);
        // Swept first, the widow's surface has 99 when she leaves her mark; the bishop's goods become 1000.
        DustLand y = Due.room("fall 0;widow at 0;dust 0 109;bishop at 1 goods 990;dust 1 110");
        y.go(1);
        Due.due("widow by 99", y.mark(0, 0), 1);
        Due.due("bishop by 100 with 1000", y.mark(1, 1), 6);
    }

    private static void rentsArePaid() {
        DustLand x = Due.room("fall 1;tenant at 0 goods 3;lord at 1;dust 0 38;dust 1 39;dust 2 9999;dust 3 119");
        x.charter(0, 3, 7);
        x.go(1);
        Due.due("39 / 20 and 120 / 20, each cut", x.of(0, 2), 3 + 1 + 6);
        Due.due("40 / 20", x.of(1, 2), 2);
        DustLand y = Due.room("cat at 0 marks 9;dust 0 9999");
        y.change(0, 2, 99998);
        y.go(1);
        Due.due("99999 at most", y.of(0, 2), 99999);
    }

    private static void promise14To16() {
        DustLand x = Due.room("fall 2;draught 1;dust 11 100;lord at 0;maid at 0 marks 20");
        String before = Due.look(x);
        Due.due("ahead(11, 0)", x.ahead(11, 0), 100);
        Due.due("ahead(11, 1)", x.ahead(11, 1), 92);
        Due.due("ahead(0, 1): 10 and 2, swept", x.ahead(0, 1), 0);
        Due.due("ahead(1, 1)", x.ahead(1, 1), 2);
        Due.due("ahead(5, 60): 2 a day, as nothing blown is lost", Due.room("fall 2").ahead(5, 60), 120);
        Due.due("goods(0, 0)", x.goods(0, 0), 0);
        // Lord: 5 a day; maid: 1 less, 1 more. Behind 4 days both have 20: 20, 20 is the lord's, as the least number.
        Due.due("holder(0, 0)", x.holder(0, 0), 1);
        Due.due("holder(0, 3)", x.holder(0, 3), 1);
        Due.due("holder(0, 4)", x.holder(0, 4), 0);
        Due.due("holder(0, 60)", x.holder(0, 60), 0);
        Due.due("holder(3, 60)", x.holder(3, 60), -1);
        Due.due("holder(0, 0) behind another question", x.holder(0, 0), 1);
        Due.all("ahead beyond", Due.BEYOND, x.ahead(-1, 0), x.ahead(12, 0), x.ahead(0, -1), x.ahead(0, 61));
        Due.all("goods beyond", Due.BEYOND, x.goods(-1, 0), x.goods(2, 0), x.goods(0, -1), x.goods(0, 61));
        Due.all("holder beyond", Due.BEYOND, x.holder(-1, 0), x.holder(12, 0), x.holder(0, -1), x.holder(0, 61));
        Due.same("what will be", Due.look(x), before);
        DustLand y = Due.room("fall 0;cat at 5 goods 4 marks 1;dust 5 25;dust 7 60");
        y.charter(0, 7, 9);
        Due.due("goods(0, 1): 20 / 20, 60 / 20", y.goods(0, 1), 8);
        Due.due("goods(0, 2)", y.goods(0, 2), 11);
        Due.due("goods(0, 60)", y.goods(0, 60), 4 + 4 + 59 * 3);
    }

    private static void promise17() {
        DustLand x = Due.room("lord at 0;maid at 0 marks 20;tenant at 3");
        String before = Due.look(x);
        Due.due("when(1, 0)", x.when(1, 0), 0);
        Due.due("when(0, 0)", x.when(0, 0), 4);
        Due.due("when(2, 3)", x.when(2, 3), 1);
        Due.due("when(2, 0)", x.when(2, 0), Due.NONE);
        Due.all("when beyond", Due.BEYOND, x.when(-1, 0), x.when(3, 0), x.when(0, -1), x.when(0, 12));
        Due.same("when", Due.look(x), before);
        // The cat's mark is 1 less each day that the maid sits there, and hers 1 more.
        DustLand y = Due.room("maid at 0;cat at 1");
        y.charter(1, 0, 99);
        Due.due("50 against 49", y.when(0, 0), 50);
        DustLand z = Due.room("cat at 0;cat at 1 marks 1");
        z.charter(0, 1, 60);
        Due.due("60 days", z.when(1, 1), 60);
        z.charter(0, 1, 61);
        Due.due("61 days are too many", z.when(1, 1), Due.NONE);
    }

    private static void promise18() {
        DustLand x = Due.room("lord at 0;maid at 0 marks 20");
        Due.due("clash()", x.clash(), 4);
        Due.due("a new holder", Due.room("maid at 4").clash(), 1);
        Due.due("nobody", new DustLand().clash(), Due.NONE);
        Due.due("always the same", Due.room("maid at 4 marks 1").clash(), Due.NONE);
        DustLand y = Due.room("cat at 0;cat at 0");
        y.charter(0, 0, 60);
        Due.due("held no longer behind 60 days", y.clash(), 60);
        y.charter(0, 0, 61);
        Due.due("held no longer behind 61 days", y.clash(), Due.NONE);
    }

    private static void promise19() {
        DustLand x = Due.room("fall 0;cat at 0 goods 5 marks 1;dust 1 30");
        x.charter(0, 1, 1);
        String before = Due.look(x);
        Due.due("rich(0, 0)", x.rich(0, 0), 0);
        Due.due("rich(0, 5)", x.rich(0, 5), 0);
        Due.due("rich(0, 6)", x.rich(0, 6), 1);
        Due.due("rich(0, 65)", x.rich(0, 65), 60);
        Due.due("rich(0, 66)", x.rich(0, 66), Due.NONE);
        Due.due("rich(0, 99999)", x.rich(0, 99999), Due.NONE);
        Due.all("rich beyond", Due.BEYOND, x.rich(-1, 0), x.rich(1, 0), x.rich(0, -1), x.rich(0, 100000));
        Due.same("rich", Due.look(x), before);
    }

    private static void promise20() {
        DustLand x = Due.room("fall 0;tenant at 4;dust 9 400;dust 10 400;dust 2 399");
        String before = Due.look(x);
        Due.due("seat(0, 1): the least of two", x.seat(0, 1), 9);
        Due.due("seat(0, 0): all alike", x.seat(0, 0), 0);
        x.dust(11, 420);
        Due.due("seat(0, 1): the last", x.seat(0, 1), 11);
        x.dust(11, 0);
        x.dust(0, 420);
        Due.due("seat(0, 1): the first", x.seat(0, 1), 0);
        x.dust(0, 0);
        x.charter(0, 10, 50);
        Due.due("seat(0, 40): 10 is held anyway", x.seat(0, 40), 9);
        x.charter(0, 10, 0);
        Due.all("seat beyond", Due.BEYOND, x.seat(-1, 0), x.seat(1, 0), x.seat(0, -1), x.seat(0, 41));
        Due.same("seat", Due.look(x), before);
    }

    private static void promise21() {
        DustLand x = Due.room("fall 0;tenant at 4;dust 4 19");
        String before = Due.look(x);
        Due.due("kindFor(0, 1): 10 kept by a bishop", x.kindFor(0, 1), 4);
        Due.due("kindFor(0, 0)", x.kindFor(0, 0), 0);
        x.dust(4, 400);
        Due.due("kindFor(0, 2): 19 rent and 10 kept", x.kindFor(0, 2), 4);
        DustLand y = Due.room("fall 0;cat at 4;lord at 4 marks 7;dust 4 4000");
        Due.due("kindFor: nobody gets above the lord, but a bishop keeps", y.kindFor(0, 1), 4);
        y.charter(1, 4, 0);
        Due.due("kindFor: only an heir's 7 less 1 are as many as the lord's 6", y.kindFor(0, 1), 6);
        Due.all("kindFor beyond", Due.BEYOND, x.kindFor(-1, 0), x.kindFor(1, 0), x.kindFor(0, -1), x.kindFor(0, 41));
        DustLand z = Due.room("fall 0;tenant at 4;dust 4 19");
        z.kindFor(0, 40);
        Due.same("kindFor", Due.look(z), before);
    }

    private static void promise22() {
        DustLand x = Due.room("fall 0;tenant at 5;dust 3 1000;draught 1");
        String before = Due.look(x);
        Due.due("draught(0, 1): 100 from 3 to 5", x.draught(0, 1), 2);
        Due.due("draught(0, 0): all alike, the least", x.draught(0, 0), -3);
        x.change(0, 1, 0);
        Due.due("draught(0, 1): 3 back", x.draught(0, 1), -3);
        x.change(0, 1, 3);
        Due.due("draught(0, 1): best is none", x.draught(0, 1), 0);
        x.change(0, 1, 5);
        Due.all("draught beyond", Due.BEYOND, x.draught(-1, 0), x.draught(1, 0), x.draught(0, -1), x.draught(0, 41));
        Due.same("draught", Due.look(x), before);
    }

    private static void promise23() {
        DustLand x = Due.room("maid at 0;dust 5 100");
        String before = Due.look(x);
        // Behind a day: 100, 11 times the fall, and of surface 0 what is above 20.
        Due.due("fallFor(100, 1)", x.fallFor(100, 1), 0);
        Due.due("fallFor(101, 1)", x.fallFor(101, 1), 1);
        Due.due("fallFor(111, 1)", x.fallFor(111, 1), 1);
        Due.due("fallFor(112, 1)", x.fallFor(112, 1), 2);
        Due.due("fallFor(1268, 1): all 99", x.fallFor(100 + 99 * 12 - 20, 1), 99);
        Due.due("fallFor(1269, 1)", x.fallFor(100 + 99 * 12 - 19, 1), Due.NONE);
        Due.due("fallFor(100, 0)", x.fallFor(100, 0), 0);
        Due.due("fallFor(101, 0)", x.fallFor(101, 0), Due.NONE);
        Due.due("fallFor(0, 40)", x.fallFor(0, 40), 0);
        Due.due("fallFor(99999, 40)", x.fallFor(99999, 40), Due.NONE);
        Due.all("fallFor beyond", Due.BEYOND, x.fallFor(-1, 0), x.fallFor(100000, 0), x.fallFor(0, -1), x.fallFor(0, 41));
        Due.same("fallFor", Due.look(x), before);
        DustLand y = new DustLand();
        for (int f = 0; f <= 99; f++) {
            Due.due("fallFor, one day, exactly " + f, y.fallFor(12 * f, 1), f);
        }
    }

    private static void promise24() {
        DustLand x = Due.room("fall 0;tenant at 5;tenant at 6;tenant at 7;tenant at 7;dust 7 100;dust 6 100");
        String before = Due.look(x);
        Due.due("swapFor(0, 1): 6 alone, 7 against another's, who comes later", x.swapFor(0, 1), 1);
        Due.due("swapFor(0, 0): the least other one", x.swapFor(0, 0), 1);
        Due.due("swapFor(1, 0): the least other one", x.swapFor(1, 0), 0);
        Due.due("swapFor(1, 1): nothing by 0, nor by 2", x.swapFor(1, 1), 0);
        Due.due("swapFor(3, 1): 6 alone", x.swapFor(3, 1), 1);
        Due.all("swapFor beyond", Due.BEYOND, x.swapFor(-1, 0), x.swapFor(4, 0), x.swapFor(0, -1), x.swapFor(0, 41));
        Due.same("swapFor", Due.look(x), before);
        DustLand two = Due.room("fall 0;cat;cat;tenant at 4;dust 4 100");
        Due.due("swapFor of the first of three", two.swapFor(0, 1), 1);
        two.change(0, 0, 1);
        Due.due("swapFor: the last", two.swapFor(0, 1), 2);
        DustLand empty = Due.room("fall 0;tenant at 1;tenant at 2;dust 0 500");
        Due.due("swapFor: only with those who are there", empty.swapFor(0, 1), 1);
        Due.due("swapFor of two", Due.room("cat;cat").swapFor(1, 1), 0);
        DustLand y = Due.room("cat");
        Due.due("swapFor alone", y.swapFor(0, 1), Due.NONE);
        Due.all("swapFor alone, beyond", Due.BEYOND, y.swapFor(1, 1), y.swapFor(0, 41), new DustLand().swapFor(0, 0));
    }

    private static void promise25() {
        DustLand x = Due.room("fall 0;lord at 5;cat at 5;maid at 6;widow at 7;bishop at 8;dust 5 100;dust 6 100;dust 7 100;dust 8 100");
        String before = Due.look(x);
        Due.due("brooms(400, 1)", x.brooms(400, 1), 0);
        Due.due("brooms(395, 1)", x.brooms(395, 1), 1 << 1);
        Due.due("brooms(394, 1)", x.brooms(394, 1), 1 << 2);
        Due.due("brooms(380, 1)", x.brooms(380, 1), 1 << 2);
        Due.due("brooms(379, 1)", x.brooms(379, 1), 1 << 1 | 1 << 2);
        Due.due("brooms(370, 1): two of ten, of the least number", x.brooms(370, 1), 1 << 2 | 1 << 3);
        Due.due("brooms(355, 1)", x.brooms(355, 1), 1 << 1 | 1 << 2 | 1 << 3 | 1 << 4);
        Due.due("brooms(354, 1)", x.brooms(354, 1), Due.NONE);
        Due.due("brooms(399, 0)", x.brooms(399, 0), Due.NONE);
        Due.due("brooms(0, 19): 5 are left to the cat", x.brooms(0, 19), Due.NONE);
        Due.due("brooms(0, 20)", x.brooms(0, 20), 1 << 1 | 1 << 2 | 1 << 3 | 1 << 4);
        Due.due("brooms(99999, 20)", x.brooms(99999, 20), 0);
        Due.all("brooms beyond", Due.BEYOND, x.brooms(-1, 0), x.brooms(100000, 0), x.brooms(0, -1), x.brooms(0, 21));
        Due.same("brooms", Due.look(x), before);
        Due.due("brooms, all are needed", Due.room("fall 0;maid;maid;maid;dust 0 60").brooms(0, 1), 7);
        Due.due("brooms without tenants", new DustLand().brooms(0, 0), 0);
        Due.due("brooms without tenants, none", new DustLand().brooms(35, 1), Due.NONE);
    }

    private static void promise26() {
        DustLand x = Due.room("fall 0;cat at 5;bishop at 7;maid at 6;maid at 6;lord at 6;dust 5 100;dust 6 100;dust 7 100");
        String before = Due.look(x);
        Due.due("without(1)", x.without(1), 2);
        Due.due("without(0): all alike", x.without(0), 0);
        Due.due("without(40): what the one leaves the other sweeps", x.without(40), 0);
        Due.all("without beyond", Due.BEYOND, x.without(-1), x.without(41), new DustLand().without(41));
        Due.due("without tenants", new DustLand().without(0), Due.NONE);
        Due.same("without", Due.look(x), before);
    }

    private static void promise27() {
        DustLand x = Due.room("fall 0;tenant at 4 goods 2;dust 4 25;dust 6 25;dust 8 45");
        String before = Due.look(x);
        x.sheet(1, 8, 2);
        x.write(1, 0, 2);
        x.write(1, 1, 3);
        Due.due("fits: 1 rent", x.fits(1, 0), 1 << 4 | 1 << 6);
        x.write(1, 1, 4);
        Due.due("fits: 2 rents", x.fits(1, 0), 1 << 8);
        x.write(1, 1, 2);
        Due.due("fits: none", x.fits(1, 0), 4095 & ~(1 << 4 | 1 << 6 | 1 << 8));
        x.write(1, 1, -1);
        Due.due("fits: any", x.fits(1, 0), 4095);
        x.write(1, 0, 1);
        Due.due("fits: not even now", x.fits(1, 0), 0);
        x.write(1, 0, -2);
        Due.due("fits: below -1 is no goods", x.fits(1, 0), 0);
        x.sheet(2, 32, 40);
        for (int i = 0; i < 39; i++) x.write(2, i, -1);
        x.write(2, 39, 2 + 39 * 2);
        Due.due("fits: behind 39 days", x.fits(2, 0), 1 << 8);
        x.sheet(2, 8, 0);
        Due.due("fits: nothing told", x.fits(2, 0), 4095);
        Due.all("fits, no such sheet", Due.BEYOND, x.fits(-1, 0), x.fits(4, 0), x.fits(4, 9));
        Due.all("fits, missing", Due.MISSING, x.fits(0, 0), x.fits(3, 9), x.fits(0, -1));
        Due.all("fits, no such tenant", Due.BEYOND, x.fits(1, 1), x.fits(1, -1));
        Due.same("fits", Due.look(x), before);
    }

    private static void promise28() {
        DustLand x = Due.room("fall 0;tenant at 4 goods 2;dust 4 41");
        String before = Due.look(x);
        x.sheet(1, 16, 2);
        x.write(1, 0, 2);
        // Of 41 a tenant or lord has 2 of rent, an heir 2 of 40; a maid 1 of 21; a widow 5 and 1, a bishop 10 and 1; a cat holds nothing.
        x.write(1, 1, 4);
        Due.due("kinds: 2 rents", x.kinds(1, 0), 1 | 1 << 1 | 1 << 6);
        x.write(1, 1, 3);
        Due.due("kinds: maid", x.kinds(1, 0), 1 << 2);
        x.write(1, 1, 8);
        Due.due("kinds: widow", x.kinds(1, 0), 1 << 3);
        x.write(1, 1, 13);
        Due.due("kinds: bishop", x.kinds(1, 0), 1 << 4);
        x.write(1, 1, 2);
        Due.due("kinds: cat", x.kinds(1, 0), 1 << 5);
        x.write(1, 1, -1);
        Due.due("kinds: any", x.kinds(1, 0), 127);
        Due.all("kinds, no such sheet", Due.BEYOND, x.kinds(-1, 0), x.kinds(4, 0), x.kinds(4, 9));
        Due.all("kinds, missing", Due.MISSING, x.kinds(0, 0), x.kinds(3, 9));
        Due.all("kinds, no such tenant", Due.BEYOND, x.kinds(1, 1), x.kinds(1, -1));
        Due.same("kinds", Due.look(x), before);
    }

    private static void promise29() {
        DustLand x = Due.room("fall 0;dust 0 120");
        Due.all("sneezes beyond", Due.BEYOND, x.sneezes(0), x.sneezes(21), x.sneezes(-1));
        Due.due("no draw yet", x.count(6), 1);
        int z = 1;
        int at = 0;
        for (int i = 0; i < 20; i++) {
            z = z * 1103515245 + 12345;
            if ((z >>> 8) % 12 == at) at = (at + 1) % 12;
        }
        Due.due("sneezes(20)", x.sneezes(20), 120);
        Due.due("z", x.count(6), z);
        Due.due("where the dust is", x.surface(at, 0), 120);
        Due.due("days", x.now(0), 20);
        DustLand y = Due.room("fall 0");
        for (int s = 0; s < 12; s++) y.dust(s, 9999);
        y.seed(0);
        // The draw of 0 gives 12345 >>> 8 = 48: surface 0.
        Due.due("sneezes(1): one surface's dust is lost", y.sneezes(1), 11 * 9999);
        Due.due("surface 0", y.surface(0, 0), 0);
        DustLand w = Due.room("fall 3;dust 0 50;maid at 1");
        w.seed(0);
        Due.due("sneezes(1): then a day", w.sneezes(1), 50 + 36 - 20);
        DustLand n = new DustLand();
        n.seed(-1);
        n.sneezes(1);
        Due.due("z below 0 is drawn from as well", n.count(6), -1103515245 + 12345);
    }

    private static void promise30() {
        DustLand x = Due.room("cat");
        String before = Due.look(x);
        Due.due("nothing held", x.odds(14, 0), 1);
        Due.due("nothing held, below", x.odds(14, 1), 1);
        Due.same("odds", Due.look(x), before);
        x.charter(0, 0, 1);
        long above = 1;
        long below = 1;
        for (int i = 0; i < 14; i++) {
            above *= 11;
            below *= 12;
        }
        Due.due("11 of 12", x.odds(14, 0), above);
        Due.due("11 of 12, below", x.odds(14, 1), below);
        for (int s = 1; s < 4; s++) x.charter(0, s, 1);
        Due.due("2 of 3", x.odds(3, 0), 8);
        Due.due("2 of 3, below", x.odds(3, 1), 27);
        Due.due("no draw", x.odds(0, 0), 1);
        Due.due("no draw, below", x.odds(0, 1), 1);
        for (int s = 4; s < 12; s++) x.charter(0, s, 1);
        Due.due("all held", x.odds(1, 0), 0);
        Due.due("all held, below", x.odds(1, 1), 1);
        Due.due("all held, no draw", x.odds(0, 0), 1);
        Due.all("odds beyond", Due.BEYOND, x.odds(-1, 0), x.odds(15, 0), x.odds(0, -1), x.odds(0, 2));
    }

    private static void promise31() {
        DustLand x = new DustLand();
        Due.due("seed(-5000000)", x.seed(-5000000), 1);
        Due.due("seed(least)", x.seed(Due.LEAST), -5000000);
        Due.due("seed(most)", x.seed(Due.MOST), Due.LEAST);
        Due.due("such answers are no findings", x.status(-1), 0);
    }

    private static void promise32() {
        DustLand x = new DustLand();
        Due.all("feed beyond", Due.BEYOND, x.feed(0, 0), x.feed(0, 5), x.feed(0, -1));
        Due.due("feed 4", x.feed('f' << 24 | 'a' << 16 | 'l' << 8 | 'l', 4), 4);
        Due.due("feed 2", x.feed(0x41420000 | ' ' << 8 | '7', 2), 6);
        Due.due("text()", x.text(), 1);
        Due.due("fall", x.law(0, 0), 7);
        for (int i = 1; i <= 29; i++) Due.due("feed " + i, x.feed(0, 4), 4 * i);
        Due.due("feed 3", x.feed(0, 3), 119);
        Due.due("too many", x.feed(0, 2), Due.FULL);
        Due.due("too many of no number", x.feed(0, 5), Due.BEYOND);
        Due.due("it is as it was", x.count(5), 119);
        Due.due("the last one", x.feed(0, 1), 120);
        Due.due("one more", x.feed(0, 1), Due.FULL);
    }

    private static void promise33() {
        DustLand x = new DustLand();
        Due.due("wipe()", x.wipe(), 0);
        Due.feed(x, "dust");
        Due.due("wipe()", x.wipe(), 4);
        Due.due("wipe()", x.wipe(), 0);
        Due.feed(x, "cat");
        Due.due("what was wiped is gone", x.text(), 1);
    }

    private static void promise34() {
        DustLand x = new DustLand();
        Due.due("items", Due.text(x, " widow;heir at 0011goods 9999marks 99 ; dust 3 5;dust 3 9999;fall 99;draught - 3 "), 6);
        Due.due("tape", x.count(5), 0);
        Due.due("tenants", x.count(1), 2);
        Due.due("widow at", x.of(0, 1), 0);
        Due.due("widow's kind", x.of(0, 0), 3);
        Due.due("widow's marks", x.of(0, 6), 0);
        Due.due("heir at", x.of(1, 1), 11);
        Due.due("heir's goods", x.of(1, 2), 9999);
        Due.due("heir's mark", x.mark(1, 11), 99);
        Due.due("dust by the last item", x.surface(3, 0), 9999);
        Due.due("fall", x.law(0, 0), 99);
        Due.due("draught", x.law(1, 0), -3);
        x.seat(0, 40);
        x.dust(3, 8);
        Due.due("behind a question", Due.text(x, "fall 5"), 1);
        Due.due("fall", x.law(0, 5), 5);
        Due.due("all else is as it was", x.surface(3, 0), 8);
        Due.due("day", x.now(0), 0);
        String[] kinds = {"tenant", "lord", "maid", "widow", "bishop", "cat", "heir"};
        for (int k = 0; k < kinds.length; k++) Due.due(kinds[k], Due.room(kinds[k]).of(0, 0), k);
        DustLand y = Due.room("cat;cat;cat;cat;cat;cat;cat;cat");
        Due.due("eight", y.count(1), 8);
        Due.due("dust goes on", Due.text(y, "dust 0 1"), 1);
        String before = Due.look(y);
        Due.due("a ninth", Due.text(y, "dust 0 5;fall 7; cat"), -1 - 17);
        Due.same("a text with a fault", Due.look(y), before);
        Due.due("the tape is empty all the same", y.count(5), 0);
        Due.due("and that is no finding", y.status(-1), 0);
        Due.due("draught 2", Due.text(y, "draught 2"), 1);
        Due.due("it was", y.law(1, 0), 2);
        Due.due("goods alone", Due.room("cat goods 3").of(0, 2), 3);
        Due.due("marks alone", Due.room("cat marks 3").mark(0, 0), 3);
    }

    private static void fault(String text, int place) {
        DustLand x = new DustLand();
        Due.due("text '" + text + "'", Due.text(x, text), -1 - place);
        Due.due("tenants of '" + text + "'", x.count(1), 0);
    }

    private static void faults() {
        fault("", 0);
        fault("   ", 3);
        fault(";", 0);
        fault("cat;", 4);
        fault("cat; ", 5);
        fault("cat;;cat", 4);
        fault("cat cat", 4);
        fault("catat 1", 0);
        fault("Cat", 0);
        fault("cat\tat 1", 3);
        fault("cat at", 6);
        fault("cat at x", 7);
        fault("cat at 12", 7);
        fault("cat at -1", 7);
        fault("cat at 1 at 1", 9);
        fault("cat goods 1 at 1", 12);
        fault("cat marks 1 goods 1", 12);
        fault("cat goods 10000", 10);
        fault("cat marks 100", 10);
        fault("cat goods 99999999999999999999", 10);
        fault("cat goods 4294967296", 10);
        fault("at 1", 0);
        fault("goods 1", 0);
        fault("dust", 4);
        fault("dust 12 0", 5);
        fault("dust 0 ", 7);
        fault("dust 0 10000", 7);
        fault("dust 0 -5", 7);
        fault("dust 0;5", 6);
        fault("fall", 4);
        fault("fall 100", 5);
        fault("fall -1", 5);
        fault("draught", 7);
        fault("draught -", 9);
        fault("draught --1", 9);
        fault("draught 4", 8);
        fault("draught ?1", 8);
        fault("draught -4", 9);
        fault("draught 1 1", 10);
        fault("7", 0);
        fault("catz", 0);
        fault("acat", 0);
        fault("ca", 0);
        fault("z", 0);
        fault("cat at;cat", 6);
        fault("cat goods;cat", 9);
        fault("cat marks;cat", 9);
        fault("dust;cat", 4);
        fault("dust 0;cat", 6);
        fault("fall;cat", 4);
        fault("draught;cat", 7);
        fault("draught-;cat", 8);
        fault(";".repeat(120), 0);
        fault("7".repeat(120), 0);
        fault("-7".repeat(60), 0);
        fault(" ".repeat(119) + "?", 119);
        fault(" ".repeat(120), 120);
        fault("-", 0);
        fault("fall 3!", 6);
        fault("fall 3\u00e6", 6);
        fault("cat;cat;cat;cat;cat;cat;cat;cat;cat at 99", 32);
    }

    private static void promise35() {
        DustLand x = Due.room("cat;maid");
        Due.due("hold(0, 0)", x.hold(0, 0), 1);
        Due.due("hold(9, 1)", x.hold(9, 1), 1);
        Due.due("hold(5, -1)", x.hold(5, -1), 1);
        Due.due("spots", x.count(7), 2);
        Due.due("as(9, 2)", x.as(9, 2), 1);
        Due.due("hold(9, 0)", x.hold(9, 0), 1);
        Due.due("as(9, 0)", x.as(9, 0), 0);
        Due.due("hold(9, -1)", x.hold(9, -1), 1);
        Due.due("as(9, 0)", x.as(9, 0), Due.MISSING);
        Due.all("hold beyond", Due.BEYOND, x.hold(-1, 0), x.hold(10, 0), x.hold(0, 2), x.hold(0, -2), x.hold(10, -1));
        Due.due("spots", x.count(7), 1);
    }

    private static void promise36() {
        DustLand x = Due.room("tenant;lord;maid;widow;bishop;cat;heir");
        // By kinds: the set of those that it is one of.
        int[] under = {1, 1 | 2, 1 | 4, 1 | 4 | 8, 1 | 4 | 8 | 16, 1 | 32, 1 | 2 | 64};
        for (int t = 0; t < 7; t++) {
            x.hold(t, t);
            for (int k = 0; k < 7; k++) Due.due("as(" + t + ", " + k + ")", x.as(t, k), (under[t] >> k & 1) == 1 ? t : Due.KIND);
        }
        Due.all("as, nothing held", Due.MISSING, x.as(7, 0), x.as(9, 6));
        Due.all("as beyond", Due.BEYOND, x.as(-1, 0), x.as(10, 0), x.as(0, -1), x.as(0, 7), x.as(9, 7));
        x.change(0, 0, 6);
        Due.due("it is what it has become", x.as(0, 1), 0);
    }

    private static void promise37() {
        DustLand x = new DustLand();
        Due.due("sheet(0, 8, 40)", x.sheet(0, 8, 40), 40);
        Due.due("sheet(3, 16, 0)", x.sheet(3, 16, 0), 0);
        Due.due("it is not missing", x.load(3), 0);
        Due.due("sheet(0, 32, 12)", x.sheet(0, 32, 12), 12);
        Due.due("all 0", x.load(0), 12);
        x.write(0, 0, 5);
        Due.all("sheet beyond", Due.BEYOND, x.sheet(-1, 8, 1), x.sheet(4, 8, 1), x.sheet(4, 8, -1), x.sheet(0, 7, 1),
            x.sheet(0, 64, -1), x.sheet(0, -8, 1), x.sheet(0, 24, 1), x.sheet(0, 8, 41), x.sheet(0, 32, Due.MOST), x.sheet(0, 0, 41));
        Due.all("sheet size", Due.SIZE, x.sheet(0, 8, -1), x.sheet(0, 0, -1), x.sheet(0, 32, Due.LEAST));
        x.load(0);
        Due.due("it is as it was", x.surface(0, 0), 5);
        Due.due("sheet(0, 8, 1)", x.sheet(0, 8, 1), 1);
        x.load(0);
        Due.due("all 0 again", x.surface(0, 0), 0);
        Due.due("sheet(0, 0, 7)", x.sheet(0, 0, 7), 0);
        Due.due("it is missing", x.load(0), Due.MISSING);
        Due.due("sheet(0, 0, 0)", x.sheet(0, 0, 0), 0);
    }

    private static int readBack(int bits, int v) {
        DustLand x = new DustLand();
        x.sheet(0, bits, 1);
        Due.due("write(0, 0, " + v + ")", x.write(0, 0, v), 1);
        return x.load(0) == 1 ? x.surface(0, 0) : -1;
    }

    private static void promise38() {
        Due.due("8 bits, 127", readBack(8, 127), 127);
        Due.due("8 bits, 128 is below 0", readBack(8, 128), -1);
        Due.due("8 bits, 256 and 5", readBack(8, 261), 5);
        Due.due("16 bits, 9999", readBack(16, 9999), 9999);
        Due.due("16 bits, 65536 and 6", readBack(16, 65542), 6);
        Due.due("16 bits, 32768", readBack(16, 32768), -1);
        Due.due("16 bits, -65536 and 6", readBack(16, -65530), 6);
        Due.due("32 bits, 65542", readBack(32, 65542), -1);
        DustLand x = new DustLand();
        x.sheet(1, 8, 2);
        Due.all("write, no such sheet", Due.BEYOND, x.write(-1, 0, 0), x.write(4, 0, 0), x.write(4, 99, 0));
        Due.all("write, missing", Due.MISSING, x.write(0, 0, 0), x.write(0, 99, 0), x.write(3, -1, 0));
        Due.all("write, no such number", Due.BEYOND, x.write(1, -1, 0), x.write(1, 2, 0), x.write(1, Due.MOST, 0));
        x.sheet(2, 8, 0);
        Due.due("write, none there", x.write(2, 0, 0), Due.BEYOND);
    }

    private static String dustOf(DustLand x, int s, int n) {
        x.load(s);
        StringBuilder all = new StringBuilder();
        for (int i = 0; i < n; i++) all.append(x.surface(i, 0)).append(' ');
        return all.toString();
    }

    private static void promise39() {
        DustLand x = new DustLand();
        x.sheet(0, 8, 5);
        x.sheet(1, 8, 4);
        x.sheet(2, 16, 5);
        for (int i = 0; i < 5; i++) x.write(0, i, i + 1);
        Due.due("copy(0, 1, 1, 0, 4)", x.copy(0, 1, 1, 0, 4), 4);
        Due.same("copied", dustOf(x, 1, 4), "2 3 4 5 ");
        Due.due("copy(0, 0, 0, 1, 4): on itself", x.copy(0, 0, 0, 1, 4), 4);
        Due.same("as they all were", dustOf(x, 0, 5), "1 1 2 3 4 ");
        Due.due("copy(0, 1, 0, 0, 4): back", x.copy(0, 1, 0, 0, 4), 4);
        Due.same("as they all were", dustOf(x, 0, 5), "1 2 3 4 4 ");
        Due.due("copy(0, 5, 1, 4, 0)", x.copy(0, 5, 1, 4, 0), 0);
        Due.all("copy, no such sheet", Due.BEYOND, x.copy(-1, 0, 1, 0, 1), x.copy(4, 0, 1, 0, 1), x.copy(0, 0, -1, 0, 1), x.copy(3, 0, 4, 0, 1));
        Due.all("copy, missing", Due.MISSING, x.copy(3, 0, 1, 0, 1), x.copy(0, 0, 3, 0, 1), x.copy(3, -1, 2, 0, 99));
        Due.all("copy, other bits", Due.KIND, x.copy(0, 0, 2, 0, 1), x.copy(2, -1, 0, 0, 99));
        Due.all("copy beyond", Due.BEYOND, x.copy(0, 0, 1, 0, 5), x.copy(1, 1, 0, 0, 4), x.copy(0, 0, 1, 1, 4), x.copy(0, -1, 1, 0, 1),
            x.copy(0, 0, 1, -1, 1), x.copy(0, 0, 1, 0, -1), x.copy(0, Due.MOST, 1, 0, 1), x.copy(0, 1, 1, 0, Due.MOST),
            x.copy(0, 0, 1, Due.MOST, Due.MOST), x.copy(0, 6, 1, 0, 0));
        Due.same("nothing has changed", dustOf(x, 0, 5), "1 2 3 4 4 ");
    }

    private static void promise40() {
        DustLand x = new DustLand();
        x.sheet(0, 32, 40);
        for (int i = 0; i < 40; i++) x.write(0, i, 100 + i);
        Due.due("load(0): no more than there are surfaces", x.load(0), 12);
        Due.due("the first", x.surface(0, 0), 100);
        Due.due("the last", x.surface(11, 0), 111);
        x.write(0, 0, 9999);
        x.write(0, 1, 0);
        x.write(0, 2, 10000);
        Due.due("load(0)", x.load(0), 2);
        Due.due("9999", x.surface(0, 0), 9999);
        Due.due("0", x.surface(1, 0), 0);
        Due.due("10000 doesn't come", x.surface(2, 0), 102);
        Due.due("nor what is behind it", x.surface(3, 0), 103);
        x.write(0, 0, -1);
        Due.due("load(0)", x.load(0), 0);
        Due.all("load, no such sheet", Due.BEYOND, x.load(-1), x.load(4));
        Due.all("load, missing", Due.MISSING, x.load(1), x.load(3));
    }

    private static void promise41() {
        DustLand x = Due.room("cat at 1 marks 5;cat at 3 marks 9");
        x.sheet(0, 8, 4);
        Due.due("0 isn't so", x.judge(0), 1);
        x.write(0, 0, -1);
        x.write(0, 2, -1);
        x.write(0, 3, 1);
        Due.due("all is so", x.judge(0), 0);
        x.write(0, 3, 0);
        Due.due("3 isn't so", x.judge(0), 4);
        x.sheet(1, 16, 13);
        for (int i = 0; i < 13; i++) x.write(1, i, x.surface(i % 12, 1));
        Due.due("there is no surface 12", x.judge(1), 13);
        x.sheet(2, 8, 0);
        Due.due("nothing told", x.judge(2), 0);
        Due.all("judge, no such sheet", Due.BEYOND, x.judge(-1), x.judge(4));
        Due.due("judge, missing", x.judge(3), Due.MISSING);
    }

    private static void promise42And43() {
        DustLand x = Due.room("cat at 2 goods 7 marks 5;maid at 3;dust 5 80;fall 9;draught 2");
        Due.due("undo without an image", x.undo(), Due.NONE);
        x.hold(3, 1);
        x.seed(77);
        x.go(3);
        String then = Due.look(x);
        Due.due("image()", x.image(), 1);
        x.go(5);
        x.sneezes(2);
        x.tenant(4, 4);
        x.change(0, 0, 1);
        x.hold(3, 2);
        x.hold(4, 0);
        x.law(0, 1);
        x.law(1, -1);
        x.charter(1, 9, 9);
        x.sheet(0, 8, 3);
        x.write(0, 0, 4);
        Due.feed(x, "ab");
        Due.due("undo()", x.undo(), 3);
        Due.due("the tape stays", x.wipe(), 2);
        Due.same("undo()", Due.look(x), then);
        Due.due("spot 3", x.as(3, 2), 1);
        Due.due("spot 4", x.as(4, 0), Due.MISSING);
        Due.due("sheets stay", x.load(0), 3);
        Due.due("as written", x.surface(0, 0), 4);
        Due.due("undo() again", x.undo(), 3);
        Due.same("undo() again", Due.look(x), then);
        x.go(1);
        String later = Due.look(x);
        x.image();
        x.go(1);
        Due.due("the latest", x.undo(), 4);
        Due.same("the latest", Due.look(x), later);
        x.tenant(0, 0);
        Due.due("a tenant's number is free again", x.count(1), 3);
        Due.due("a new one has no marks", x.of(2, 6), 0);
    }

    private static void promise44() {
        DustLand x = new DustLand();
        Due.due("tear()", x.tear(), 0);
        x.image();
        Due.due("tear()", x.tear(), 1);
        Due.due("tear()", x.tear(), 0);
        Due.due("undo()", x.undo(), Due.NONE);
        x.image();
        x.image();
        x.tear();
        Due.due("no image is left", x.undo(), Due.NONE);
    }

    private static void promise45() {
        DustLand x = Due.room("cat at 2 goods 7 marks 5;maid at 3 goods 5;dust 5 80;dust 6 9");
        x.charter(0, 9, 1);
        x.hold(1, 1);
        x.hold(2, 1);
        x.hold(3, 0);
        Due.feed(x, "abc");
        x.seed(-2000000);
        int[] due = {0, 2, 2, 89, 12, 3, -2000000, 3};
        for (int what = 0; what < due.length; what++) Due.due("count " + what, x.count(what), due[what]);
        Due.due("z is no finding", x.status(-1), 0);
        Due.all("count beyond", Due.BEYOND, x.count(-1), x.count(8));
        x.go(7);
        Due.due("count(0)", x.count(0), 7);
    }

    private static void promise46() {
        DustLand x = Due.room("cat;cat;cat;cat;cat;cat;cat;cat");
        x.dust(12, 0);
        x.odds(15, 0);
        x.tenant(0, 0);
        x.hold(0, 0);
        x.as(0, 1);
        x.image();
        x.as(0, 1);
        x.as(0, 1);
        x.when(0, 11);
        x.rich(0, 99999);
        x.clash();
        x.tear();
        x.undo();
        x.as(1, 0);
        x.load(0);
        x.load(1);
        x.judge(2);
        x.copy(0, 0, 0, 0, 0);
        x.sheet(0, 8, -1);
        Due.text(x, "x");
        int[] due = {2, 1, 3, 4, 0, 5, 1};
        for (int which = 0; which < due.length; which++) Due.due("status " + which, x.status(which), due[which]);
        Due.due("status(-1)", x.status(-1), 16);
        Due.due("status(7)", x.status(7), Due.BEYOND);
        Due.due("counted from then on", x.status(0), 3);
        Due.due("status(-2)", x.status(-2), Due.BEYOND);
        Due.due("all", x.status(-1), 18);
        x.image();
        x.load(-1);
        x.undo();
        Due.due("undo takes none back", x.status(-1), 19);
    }
}
