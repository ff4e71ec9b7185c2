/** Promises 13 and 14: the tape and the rules that it tells. */
public final class RulesTest {
    public static void main(String[] args) {
        feed();
        rightTexts();
        faults();
        rulesStayIfRefused();
        whichRuleTells();
        facts();
        howConditionsHang();
        deeds();
        longTexts();
        Check.end();
    }

    private static void due(String call, long got, long want) {
        Check.due(call, got, want);
    }

    private static void feed() {
        ThirteenthBun x = new ThirteenthBun();
        due("13 bad", x.feed(0, 0), ThirteenthBun.BAD);
        due("13 bad", x.feed(0, 9), ThirteenthBun.BAD);
        due("13 bad", x.feed(0, -1), ThirteenthBun.BAD);
        due("13 nothing came", x.many(5), 0);
        for (int i = 1; i <= 24; i++) {
            due("13 how many", x.feed(0x2020202020202020L, 8), 8 * i);
        }
        due("13 how many", x.feed(0x2020202020202020L, 7), 199);
        due("13 full", x.feed(0, 2), ThirteenthBun.FULL);
        due("13 bad ahead of full", x.feed(0, 9), ThirteenthBun.BAD);
        due("13 still 199", x.many(5), 199);
        due("13 the last", x.feed(0x20, 1), 200);
        due("13 full", x.feed(0x20, 1), ThirteenthBun.FULL);
        due("14 all blanks: no rules", x.rules(), 0);
        due("14 the tape is used up", x.many(5), 0);
        // The bytes above the n lowest count nothing.
        long saddle = 's' | 'a' << 8 | 'd' << 16 | (long) 'd' << 24 | (long) 'l' << 32;
        x.feed(saddle, 3);
        x.feed(0x3b657669672000L >>> 8, 6);
        due("13 the lowest first", x.rules(), 1);
        x.feed('X' | 128L << 8, 2);
        due("13 bytes of 128 and more", x.rules(), -100);
        x.feed(0x80L << 56 | 0x20202020202020L, 8);
        due("13 the highest byte", x.rules(), -107);
    }

    private static void right(String text, int rules) {
        ThirteenthBun x = new ThirteenthBun();
        due("14 rules of '" + text + "'", Check.tell(x, text), rules);
        due("14 many rules of '" + text + "'", x.many(1), rules);
        due("14 tape behind '" + text + "'", x.many(5), 0);
    }

    private static void fault(String text, int place) {
        due("14 fault of '" + text + "'", Check.tell(new ThirteenthBun(), text), -100 - place);
    }

    private static void rightTexts() {
        right("", 0);
        right("   ", 0);
        right("house give;", 1);
        right("  house   give ; ", 1);
        right("house hold;bride send;lovell give;", 3);
        right("house if 1<2 give;", 1);
        right("house if1<2give;", 1);
        right("house if night=grief or draws>rain and number<9999 send;", 1);
        right("sad if not not not(1=1)hold;", 1);
        right("sad if(((1=1)))hold;", 1);
        right("sad if((not(1=1))or(2<3))and 1>0 hold;", 1);
        right("trouble if (1=1) and (1=1) and (1=1) and (1=1) and (1=1) give;", 1);
        right("farm if 0000=9999 give;", 1);
        right("house if (((1=1)) and ((1=1))) give;", 1);
        String eight = "";
        for (int i = 0; i < 8; i++) {
            eight += "farm give;";
        }
        right(eight, 8);
    }

    private static void faults() {
        fault("c", 0);
        fault("houses give;", 0);
        fault("hous give;", 0);
        fault("House give;", 0);
        fault("give;", 0);
        fault(";", 0);
        fault("12", 0);
        fault("not", 0);
        fault("house", 5);
        fault("house ", 6);
        fault("house giv;", 6);
        fault("house give", 10);
        fault("house give  ", 12);
        fault("house give give;", 11);
        fault("house give;x", 11);
        fault("house give; ;", 12);
        fault("house give;12345", 11);
        fault("house give;\n", 11);
        fault("house\tgive;", 5);
        fault("house if give;", 9);
        fault("house if 1 give;", 11);
        fault("house if 1< give;", 12);
        fault("house if 1<2;", 12);
        fault("house if 1<2", 12);
        fault("house if 1<2 3", 13);
        fault("house if 1<2<3 give;", 12);
        fault("house if 12345<2 give;", 9);
        fault("house if 1<00000 give;", 11);
        fault("house if 00001<2 give;", 9);
        fault("house if 1<2) give;", 12);
        fault("house if (1<2 give;", 14);
        fault("house if ((((1<2)))) give;", 12);
        fault("house if () give;", 10);
        fault("house if not give;", 13);
        fault("house if 1<2 and give;", 17);
        fault("house if 1<2 or or", 16);
        fault("house if 1 < 2 and not", 22);
        fault("house if if", 9);
        fault("house if 1<=2 give;", 11);
        fault("house if night night give;", 15);
        fault("house if nights=1 give;", 9);
        fault("house if (night) = 1 give;", 15);
        fault("house if 1=1 house give;", 13);
        fault("house if 1=1 not give;", 13);
        fault("house if 12a=1 give;", 11);
        fault("house if (((1=1) and ((1=1))) give;", 22);
        fault("house if (((1=1) or (((1=1", 21);
        fault("house 1234", 6);
        fault("house if night=number12 give;", 21);
        fault("house if a12345", 9);
        fault("house if (1=1)(", 14);
        fault("house if (1=1", 13);
        fault("house if ((1=1)", 15);
        fault("house if (1=1 or", 16);
        fault("house if (", 10);
        fault("0", 0);
        fault("house give;0", 11);
        fault("house if house=1 give;", 9);
        fault("house if bride=1 give;", 9);
        fault("house if 1=lovell give;", 11);
        fault("house if 1=give give;", 11);
        fault("housez give;", 0);
        fault("zhouse give;", 0);
        fault("house{give;", 5);
        fault("house`give;", 5);
        fault("house if 1/1=1 give;", 10);
        fault("house if 1:1=1 give;", 10);
        String eight = "";
        for (int i = 0; i < 8; i++) {
            eight += "farm give;";
        }
        fault(eight + " farm give;", 81);
        fault(eight + "  x", 82);
        fault(eight + ";", 80);
    }

    private static void rulesStayIfRefused() {
        ThirteenthBun x = new ThirteenthBun();
        x.house(2, 0, 1, 0);
        Check.tell(x, "sad send;");
        due("14 refused", Check.tell(x, "sad hold; sad hold; c"), -120);
        due("14 the tape is used up", x.many(5), 0);
        due("14 rules stay", x.many(1), 1);
        due("14 rules stay", x.houseOf(0, 8), 2);
        due("14 in place of all", Check.tell(x, "bride give; farm give;"), 2);
        due("14 in place of all", x.houseOf(0, 8), 0);
        due("14 none in place of all", x.rules(), 0);
        due("14 none in place of all", x.many(1), 0);
    }

    private static ThirteenthBun ofEachKind() {
        ThirteenthBun x = new ThirteenthBun();
        for (int kind = 1; kind <= 5; kind++) {
            x.house(kind, 0, kind, 0);
        }
        return x;
    }

    private static void wills(String text, int... wills) {
        ThirteenthBun x = ofEachKind();
        Check.tell(x, text);
        for (int k = 0; k < wills.length; k++) {
            due("14 will of kind " + (k + 1) + " by '" + text + "'", x.houseOf(k, 8), wills[k]);
        }
    }

    private static void whichRuleTells() {
        wills("house hold;", 1, 1, 1, 1, 1);
        wills("bride hold;", 1, 0, 0, 0, 0);
        wills("sad hold;", 0, 1, 1, 0, 0);
        wills("trouble hold;", 0, 0, 1, 0, 0);
        wills("farm hold;", 0, 0, 0, 1, 1);
        wills("lovell hold;", 0, 0, 0, 0, 1);
        wills("trouble hold; sad send; house hold; lovell send;", 1, 2, 1, 1, 1);
        wills("house if 1=2 hold; house send;", 2, 2, 2, 2, 2);
        wills("house give; house send;", 0, 0, 0, 0, 0);
        wills("house if grief>2 hold; sad send;", 0, 2, 1, 1, 1);
    }

    private static void facts() {
        wills("house if number=2 hold;", 0, 0, 1, 0, 0);
        wills("house if grief=2 hold;", 0, 1, 0, 0, 0);
        wills("house if draws>3 hold;", 0, 1, 1, 1, 0);
        wills("house if rain=0 hold;", 1, 1, 1, 1, 1);
        wills("house if night=0 hold;", 1, 1, 1, 1, 1);
        ThirteenthBun x = ofEachKind();
        x.lane(0, 0, 2);
        Check.tell(x, "house if draws=2 hold;");
        due("14 draws is less by lamps", x.houseOf(1, 8), 1);
        due("14 draws is less by lamps", x.houseOf(3, 8), 1);
        // In a NIGHT the FACTS are those behind (1): rain 3 then, and its own number as NIGHT.
        ThirteenthBun y = new ThirteenthBun();
        y.house(2, 0, 9, 0);
        y.dusk(0, 12);
        Check.tell(y, "sad if rain=0 hold; sad if draws<21 hold; sad if night>0 hold;");
        due("14 now it would hold", y.houseOf(0, 8), 1);
        due("14 behind (1) it gives", y.night(), 11);
        y.anew();
        Check.tell(y, "sad if night=0 and rain=3 and draws=21 and grief=9 and number=0 hold;");
        due("14 behind (1) it holds", y.night(), 0);
        due("14 next it gives", y.night(), 11);
    }

    private static void howConditionsHang() {
        int[] truths = {0, 1};
        String[] said = {"1=2", "1=1"};
        for (int a : truths) {
            for (int b : truths) {
                for (int c : truths) {
                    one(said[a] + " or " + said[b] + " and " + said[c], a | b & c);
                    one(said[a] + " and " + said[b] + " or " + said[c], a & b | c);
                    one("(" + said[a] + " or " + said[b] + ") and " + said[c], (a | b) & c);
                    one("not " + said[a] + " and " + said[b] + " or not " + said[c], (1 - a) & b | (1 - c));
                    one("not(" + said[a] + " and " + said[b] + ") and not not " + said[c], (1 - (a & b)) & c);
                    one(said[a] + " and not (" + said[b] + " or " + said[c] + ")", a & 1 - (b | c));
                    one(said[a] + " or not (not " + said[b] + " or (" + said[c] + " and not(1=2)))", a | 1 - (1 - b | c));
                }
            }
        }
        one("1<2", 1);
        one("2<2", 0);
        one("3<2", 0);
        one("1>2", 0);
        one("2>2", 0);
        one("3>2", 1);
        one("2=2", 1);
        one("0007=7", 1);
        one("9999>9998", 1);
    }

    private static void one(String condition, int holds) {
        wills("house if " + condition + " hold;", holds);
    }

    private static void deeds() {
        ThirteenthBun x = new ThirteenthBun();
        x.house(2, 0, 9, 0);
        x.sheet(0, 0, 1);
        x.write(0, 0, 1);
        x.change(0, 4, 5);
        x.dusk(0, 3);
        Check.tell(x, "sad hold;");
        due("14 hold is worth nothing", x.goAll(0, 0, 1), 0);
        due("14 hold keeps buns", x.houseOf(0, 4), 5);
        due("14 hold keeps bread", x.state(8), 40);
        x.anew();
        x.change(0, 4, 5);
        Check.tell(x, "sad send;");
        due("14 send is worth nothing", x.goAll(0, 0, 1), 0);
        due("14 send sends buns", x.houseOf(0, 4), 0);
        due("14 buns come to the tray", x.state(8), 45);
        x.anew();
        x.shop(1, 97);
        x.shop(0, 9);
        x.change(0, 4, 9);
        x.goAll(0, 0, 1);
        due("14 99 are held", x.state(8), 99);
        x.anew();
        x.shop(1, 80);
        x.change(0, 4, 9);
        x.shop(0, 9);
        x.goAll(0, 0, 1);
        due("14 sent ones come ahead of the next bread", x.state(8), 94);
        due("14 nobody is called on by it", x.state(5), 0);
    }

    private static void longTexts() {
        // The tape is full to the last byte.
        fault(";".repeat(200), 0);
        fault("house if " + "(".repeat(191), 12);
        fault("sad" + " ".repeat(192) + "house", 195);
        fault("sad give" + " ".repeat(187) + ";farm", 200);
        fault("sad if 1=" + " ".repeat(187) + "1234", 200);
        right("sad" + " ".repeat(192) + "give;", 1);
        // As many steps as 200 bytes can tell: it holds by its last part alone.
        StringBuilder s = new StringBuilder("house if 1=2");
        while (s.length() < 181) {
            s.append("or1=2");
        }
        due("14 a long one", s.length(), 182);
        wills(s + " hold;", 0, 0, 0, 0, 0);
        wills(s + "or1=1 hold;", 1, 1, 1, 1, 1);
        StringBuilder nots = new StringBuilder("house if ");
        for (int i = 0; i < 45; i++) {
            nots.append("not ");
        }
        wills(nots + "1=2 hold;", 1, 1, 1, 1, 1);
        wills(nots + "1=1 hold;", 0, 0, 0, 0, 0);
        wills("house if 1=2 or 1=1 and (1=2 or 1=1 and (1=2 or 1=1 and (1=2 or 1=1 and 1=1))) hold;", 1);
        wills("house if 1=2 or 1=1 and (1=2 or 1=1 and (1=2 or 1=1 and (1=2 or 1=1 and 1=2))) hold;", 0);
        wills("house if 1=1 or 1=1 and (1=2 or 1=1 and (1=2 or 1=1 and (1=2 or 1=1 and 1=2))) hold;", 1);
    }
}
