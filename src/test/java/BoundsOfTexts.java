/** Sections 1 and 2 of the document: plaits and ways in texts; and promises 1 to 6 and 9. */
final class BoundsOfTexts extends Bounds {
    BoundsOfTexts(Sentences doc) {
        super(doc);
    }

    void run() {
        plaits();
        plaitClauses();
        plaitSigns();
        plaitFaults();
        ways();
        wayFaults();
        feeding();
        reading();
        askingBack();
    }

    private void plait(String text, int want) {
        WhipCrack w = new WhipCrack();
        due("plait '" + text + "'", Check.plait(w, text), want);
        due("fault of '" + text + "'", w.fault(), NONE);
        due("PIECES of '" + text + "'", w.count(0), want);
    }

    /** A FAULT's number and byte, and that THE PLAIT is as it was. */
    private void badPlait(String text, int number, int at) {
        WhipCrack w = new WhipCrack();
        due("plait '" + text + "'", Check.plait(w, text), -10 - number);
        due("fault of '" + text + "'", w.fault(), at);
        dues("STRANDS behind '" + text + "'", pieces(w, 0), 8, 6, 4, 2);
        due("LENGTH behind '" + text + "'", w.count(1), 50);
    }

    private void way(String text, int want) {
        WhipCrack w = new WhipCrack();
        due("way '" + text + "'", Check.way(w, text), want);
        due("fault of '" + text + "'", w.fault(), NONE);
        due("TICKS of '" + text + "'", w.count(2), want);
    }

    private void badWay(String text, int number, int at) {
        WhipCrack w = new WhipCrack();
        due("way '" + text + "'", Check.way(w, text), -10 - number);
        due("fault of '" + text + "'", w.fault(), at);
        dues("THE HAND behind '" + text + "'", xs(w, 0), 0, 0);
        due("clauses behind '" + text + "'", w.count(3), 1);
    }

    // ------------------------------------------------------------ 1

    private void plaits() {
        sentence("STUFFS: 0 kangaroo (HEFT 4, STIFF 24, WEARS 2), 1 calf (5, 36, 3), 2 silk (1, 2, 9), 3 hair (2, 8, 5).", () -> {
            long[][] stuffs = {{4, 24, 2}, {5, 36, 3}, {1, 2, 9}, {2, 8, 5}};
            for (int f = 0; f < 4; f++) {
                WhipCrack w = whip("piece 1 strands 1 stuff " + f + ";", "go -100 0 for 1;", 0, 0);
                w.crackOn();
                dues("STUFF " + f, new long[] {w.piece(0, 1), w.piece(0, 2), w.piece(0, 3), w.piece(0, 4)},
                    f, stuffs[f][0], stuffs[f][1], stuffs[f][2]);
            }
            badPlait("piece 1 strands 1 stuff 4;", 2, 24);
        });
        sentence("A PLAIT has PIECES (1 to 12)", () -> {
            plait("piece 1 strands 1;", 1);
            plait("piece 12 strands 1;", 12);
            plait("piece 11 strands 1;piece 1 strands 1;", 12);
            badPlait("length 50;", 1, 10);
            badPlait("piece 11 strands 1;piece 2 strands 1;", 4, 25);
        });
        sentence("each of STRANDS (1 .. 16) of a STUFF", () -> {
            for (int s = 1; s <= 16; s++) {
                WhipCrack w = new WhipCrack();
                Check.plait(w, "piece 1 strands " + s + ";");
                due("STRANDS " + s, w.piece(0, 0), s);
                due("STRANDS in all " + s, w.count(5), s);
            }
            badPlait("piece 1 strands 0;", 2, 16);
            badPlait("piece 1 strands 17;", 2, 16);
            WhipCrack w = new WhipCrack();
            Check.plait(w, "piece 12 strands 16;");
            due("the most STRANDS in all", w.count(5), 192);
        });
        sentence("all are LENGTH long (20 .. 200; 50 at first)", () -> {
            due("at first", new WhipCrack().count(1), 50);
            for (int n : new int[] {20, 200}) {
                WhipCrack w = new WhipCrack();
                due("length " + n, Check.plait(w, "piece 2 strands 1;length " + n + ";"), 2);
                due("LENGTH", w.count(1), n);
                dues("both are as long", row(w, 0), 0, n, 2 * n);
            }
            badPlait("length 19;piece 1 strands 1;", 2, 7);
            badPlait("length 201;piece 1 strands 1;", 2, 7);
        });
        sentence("JOINT 0 is in THE HAND, the last one is THE TIP", () -> {
            WhipCrack w = whip("piece 12 strands 1;length 200;", "go 7 0 for 1;", 0, 0);
            due("JOINT 0", w.joint(0, 1, 0), 7);
            due("JOINT 12", w.joint(12, 1, 0), 2400);
            due("JOINT 13", w.joint(13, 1, 0), UNKNOWN);
            due("JOINT -1", w.joint(-1, 1, 0), UNKNOWN);
            due("THE TIP is JOINT 12", w.aim(2400, 0, 1, 1, 0), 0);
        });
        sentence("its BENDS STRANDS times STIFF of it (500 at most)", () -> {
            int[][] bends = {{13, 468}, {14, 500}, {16, 500}};
            for (int[] b : bends) {
                // THE HAND comes to JOINT 1, so that JOINT 2 is to move by -50 times BENDS / 1000.
                WhipCrack w = whip("piece 2 strands " + b[0] + " stuff 1;", "go 50 0 for 1;", 0, 0);
                due("BENDS of " + b[0], w.piece(1, 3), b[1]);
                dues("bent by them", row(w, 1), 50, 50, 100 - 50 * b[1] / 1000);
            }
            WhipCrack most = new WhipCrack();
            Check.plait(most, "piece 1 strands 16;");
            due("below 500", most.piece(0, 3), 384);
        });
        sentence("It is told in a text (160 bytes at most)", () -> {
            plait(padded("piece 3 strands 2;", 160), 3);
            plait("piece 3 strands 2;" + blanks(142), 3);
            badPlait(padded("piece 3 strands 2", 160), 1, 160);
            WhipCrack w = new WhipCrack();
            Check.feed(w, padded("piece 3 strands 2", 160));
            due("the 161st byte", w.feed(1, ';'), FULL);
            due("it did not come", w.plait(), -11);
        });
        sentence("At first there is a PLAIT of four PIECES of 8, 6, 4, 2 STRANDS of STUFF 0", () -> {
            WhipCrack w = new WhipCrack();
            dues("STRANDS", pieces(w, 0), 8, 6, 4, 2);
            dues("STUFF", pieces(w, 1), 0, 0, 0, 0);
            due("a fifth PIECE", w.piece(4, 0), UNKNOWN);
            due("STRANDS in all", w.count(5), 20);
        });
    }

    private void plaitClauses() {
        sentence("clause = 'length' N ';' 'piece' C 'strands' S ['stuff' F] ';': C PIECES more", () -> {
            // Each part left out, each in the place of another, one too many.
            badPlait("2 strands 3 stuff 1;", 1, 0);
            badPlait("piece strands 3 stuff 1;", 1, 6);
            badPlait("piece 2 3 stuff 1;", 1, 8);
            badPlait("piece 2 strands stuff 1;", 1, 16);
            badPlait("piece 2 strands 3 1;", 1, 18);
            badPlait("piece 2 strands 3 stuff ;", 1, 24);
            badPlait("piece 2 strands 3 stuff 1", 1, 25);
            badPlait("piece 2 strands 3 piece 1 strands 1;", 1, 18);
            badPlait("piece 2 stuff 1 strands 3;", 1, 8);
            badPlait("piece 2 strands 3 stuff 1 stuff 1;", 1, 26);
            badPlait("strands 3;", 1, 0);
            badPlait("stuff 3;", 1, 0);
            badPlait("50;piece 1 strands 1;", 1, 0);
            badPlait("length ;piece 1 strands 1;", 1, 7);
            badPlait("length 50 piece 1 strands 1;", 1, 10);
            badPlait("length 50 50;piece 1 strands 1;", 1, 10);
            badPlait("length -50;piece 1 strands 1;", 1, 7);
            WhipCrack w = new WhipCrack();
            due("2 and 3 more", Check.plait(w, "piece 2 strands 3;piece 3 strands 1 stuff 2;"), 5);
            dues("STRANDS", pieces(w, 0), 3, 3, 1, 1, 1);
            dues("STUFF", pieces(w, 1), 0, 0, 2, 2, 2);
            due("no others: not those of the PLAIT ahead", Check.plait(w, "piece 1 strands 16;"), 1);
            dues("STRANDS", pieces(w, 0), 16);
        });
        sentence("N as told", () -> {
            plait("length 20;piece 1 strands 1;", 1);
            plait("length 200;piece 1 strands 1;", 1);
            badPlait("length 0;piece 1 strands 1;", 2, 7);
            badPlait("length 999;piece 1 strands 1;", 2, 7);
        });
        sentence("C 1 .. 12", () -> {
            for (int c = 1; c <= 12; c++) {
                plait("piece " + c + " strands 16;", c);
            }
            badPlait("piece 0 strands 16;", 2, 6);
            badPlait("piece 13 strands 16;", 2, 6);
        });
        sentence("S 1 .. 16", () -> {
            plait("piece 12 strands 1;", 12);
            plait("piece 12 strands 16;", 12);
            badPlait("piece 12 strands 0;", 2, 17);
            badPlait("piece 12 strands 17;", 2, 17);
        });
        sentence("F 0 .. 3 (0, if it is not told)", () -> {
            WhipCrack w = new WhipCrack();
            Check.plait(w, "piece 1 strands 1 stuff 3;piece 1 strands 1;piece 1 strands 1 stuff 0;piece 1 strands 1 stuff 1;");
            dues("STUFF", pieces(w, 1), 3, 0, 0, 1);
            badPlait("piece 1 strands 1 stuff 4;", 2, 24);
            badPlait("piece 1 strands 1 stuff -1;", 1, 24);
            badPlait("piece 1 strands 1 stuff;", 1, 23);
        });
        sentence("'length' once at most", () -> {
            plait("piece 1 strands 1;", 1);
            plait("length 60;piece 1 strands 1;", 1);
            plait("piece 1 strands 1;length 60;", 1);
            badPlait("length 60;piece 1 strands 1;length 60;", 5, 28);
            WhipCrack w = new WhipCrack();
            Check.plait(w, "length 60;piece 1 strands 1;");
            due("LENGTH told", w.count(1), 60);
            Check.plait(w, "piece 1 strands 1;");
            due("LENGTH not told in this text", w.count(1), 50);
            due("once in each text", Check.plait(w, "piece 1 strands 1;length 70;"), 1);
            due("LENGTH told again", w.count(1), 70);
        });
        sentence("PIECES one at least", () -> {
            plait("piece 1 strands 1;", 1);
            badPlait("", 1, 0);
            badPlait(" ", 1, 1);
            badPlait("length 60;", 1, 10);
            badPlait(padded("length 60;", 160), 1, 160);
        });
        sentence("NUMBERS have one to three figures", () -> {
            plait("piece 2 strands 3 stuff 1;", 2);
            plait("piece 02 strands 03 stuff 01;", 2);
            plait("piece 002 strands 003 stuff 001;length 020;", 2);
            badPlait("piece 0002 strands 3;", 2, 6);
            badPlait("piece 2 strands 0003;", 2, 16);
            badPlait("piece 2 strands 3 stuff 0001;", 2, 24);
            badPlait("length 0050;", 2, 7);
            badPlait("piece 4294967297 strands 3;", 2, 6);
            badPlait("piece 18446744073709551617 strands 3;", 2, 6);
            badPlait("piece strands 3;", 1, 6);
        });
    }

    private void plaitSigns() {
        sentence("words are letters a .. z side by side", () -> {
            // One byte more behind 'piece', of all 256: a letter makes it another word, a figure another NUMBER.
            for (int b = 0; b < 256; b++) {
                String text = "piece" + (char) b + "1 strands 1;";
                if (b >= 'a' && b <= 'z') {
                    badPlait(text, 1, 0);
                } else if (b == ' ' || b == '0') {
                    plait(text, 1);
                } else if (b == '1') {
                    plait(text, 11);
                } else {
                    badPlait(text, b >= '2' && b <= '9' ? 2 : 1, 5);
                }
            }
            badPlait("Piece 1 strands 1;", 1, 0);
            badPlait("piecE 1 strands 1;", 1, 0);
        });
        sentence("blanks (32) may stand anywhere but within words and NUMBERS", () -> {
            plait("   piece   1   strands   1   stuff   0   ;   length   50   ;   ", 1);
            plait("piece1strands1stuff0;length50;", 1);
            badPlait("pi ece 1 strands 1;", 1, 0);
            badPlait("piece 1 stran ds 1;", 1, 8);
            badPlait("piece 1 strands 1 6;", 1, 18);
            badPlait("piece 1 2 strands 1;", 1, 8);
            for (int b = 0; b < 256; b++) {
                // As the first byte only a blank may stand; so it is behind the last one.
                if (b == ' ') {
                    plait((char) b + "piece 1 strands 1;" + (char) b, 1);
                } else {
                    badPlait((char) b + "piece 1 strands 1;", 1, 0);
                    badPlait("piece 1 strands 1;" + (char) b, 1, 18);
                }
            }
        });
        sentence("two words side by side need one", () -> {
            badPlait("piece 1 strandsstuff 1;", 1, 8);
            badPlait("piece 1 strands stuff 1;", 1, 16);
            badPlait("lengthpiece 1 strands 1;", 1, 0);
            badPlait("length piece 1 strands 1;", 1, 7);
            badWay("holdhold 1;", 1, 0);
            badWay("hold hold 1;", 1, 5);
        });
    }

    private void plaitFaults() {
        sentence("FAULTS, at the first byte that has one (the end at the text's length)", () -> {
            badPlait("piece 0 strands 0;", 2, 6);
            badPlait("piece 1 strands 0 stuff 4;", 2, 16);
            badPlait("length 50;length", 5, 10);
            badPlait("piece 12 strands 1;piece 1", 4, 25);
            badPlait("piece 1 strands 5;piece 1 strands 6", 3, 34);
            badPlait("piece 1 strands 5;piece 1 strands 6 stuff 4;", 3, 34);
            badPlait("length 19", 2, 7);
            badPlait("piece 1 strands 5", 1, 17);
            badPlait("piece 1 strands 5   ", 1, 20);
            badPlait("piece", 1, 5);
            badPlait("piece ", 1, 6);
            badPlait(padded("piece 1 strands", 160), 1, 160);
        });
        sentence("of these the least", () -> {
            badPlait("piece 12 strands 1;piece 13 strands 1;", 2, 25);
            badPlait("piece 12 strands 1;piece 12 strands 1;", 4, 25);
            badPlait("piece 1 strands 5;piece 1 strands 17;", 2, 34);
            badPlait("piece 1 strands 5;piece 1 strands 16;", 3, 34);
            badPlait("length 50;piece 1 length 50;", 1, 18);
            badPlait("length 50;piece 1 strands 1;length 50;", 5, 28);
            badPlait("piece 1 1000 strands 1;", 1, 8);
            badPlait("piece 1000 strands 1;", 2, 6);
        });
        sentence("1 it cannot stand there (a word that cannot: at its first letter; the end without PIECES)", () -> {
            badPlait("piece 1 strandz 1;", 1, 8);
            badPlait("piece 1 strand 1;", 1, 8);
            badPlait("piece 1 strandss 1;", 1, 8);
            badPlait("piece 1 strands 1 stufff 1;", 1, 18);
            badPlait("piece 1 strands 1;piec", 1, 18);
            badPlait("hold 1;", 1, 0);
            badPlait(";", 1, 0);
            badPlait("piece 1 strands 1;;", 1, 18);
            badPlait("length 50;", 1, 10);
            badPlait("length 50; ", 1, 11);
        });
        sentence("2 a NUMBER of four figures or more, or out of its bounds (at its first)", () -> {
            plait("piece 012 strands 016;", 12);
            badPlait("piece 0012 strands 16;", 2, 6);
            badPlait("piece  00012 strands 16;", 2, 7);
            badPlait("piece 12 strands   17;", 2, 19);
            badPlait("piece 013 strands 1;", 2, 6);
            badPlait("piece 000 strands 1;", 2, 6);
        });
        sentence("3 more STRANDS than the PIECE ahead has (at its first)", () -> {
            plait("piece 1 strands 5;piece 1 strands 5;", 2);
            plait("piece 1 strands 5;piece 1 strands 4;piece 1 strands 4;", 3);
            badPlait("piece 1 strands 5;piece 1 strands 6;", 3, 34);
            badPlait("piece 1 strands 5;length 60;piece 1 strands  6;", 3, 45);
            badPlait("piece 1 strands 5;piece 1 strands 4;piece 1 strands 5;", 3, 52);
            plait("piece 1 strands 16;", 1);
        });
        sentence("4 a thirteenth PIECE (at C)", () -> {
            plait("piece 6 strands 1;piece 6 strands 1;", 12);
            plait("piece 1 strands 1;piece 11 strands 1;", 12);
            badPlait("piece 6 strands 1;piece 7 strands 1;", 4, 24);
            badPlait("piece 1 strands 1;piece  12 strands 1;", 4, 25);
            badPlait("piece 12 strands 1;piece 1 strands 1;", 4, 25);
        });
        sentence("5 a second 'length' (at its first letter)", () -> {
            plait("length 50;piece 1 strands 1;", 1);
            badPlait("length 50;  length 50;piece 1 strands 1;", 5, 12);
            badPlait("length 50;piece 1 strands 1;length 19;", 5, 28);
            badPlait("length 50;length", 5, 10);
            badPlait("length 50;lengths 50;", 1, 10);
        });
    }

    // ------------------------------------------------------------ 2

    private void ways() {
        sentence("THE WAY of THE HAND is told in a text (160 bytes at most)", () -> {
            way(padded("hold 7;", 160), 7);
            way("hold 7;" + blanks(153), 7);
            badWay(padded("hold 7", 160), 1, 160);
            WhipCrack w = new WhipCrack();
            Check.feed(w, padded("hold 7", 160));
            due("the 161st byte", w.feed(1, ';'), FULL);
            due("it did not come", w.way(), -11);
            way("hold 1;".repeat(22) + "      ", 22);
        });
        sentence("way = clause {clause}", () -> {
            way("hold 1;", 1);
            way("hold 1;hold 2;go 1 1 for 3;", 6);
            badWay("", 1, 0);
            badWay("  ", 1, 2);
            badWay("times 2()", 1, 8);
            badWay("times 2( )", 1, 9);
            badWay("times 2(hold 1;times 2())", 1, 23);
            way("times 2(hold 1;)hold 1;", 3);
            way("times 2(hold 1;times 2(hold 1;)hold 1;)", 8);
            badWay("times 2(hold 1;", 1, 15);
            badWay("hold 1;)", 1, 7);
            badWay("times 2(hold 1;))", 1, 16);
        });
        sentence("clause = 'go' X Y 'for' T ';' 'hold' T ';' 'times' M '(' way ')'", () -> {
            badWay("1 2 for 3;", 1, 0);
            badWay("go for 3;", 1, 3);
            badWay("go 1 for 3;", 1, 5);
            badWay("go 1 2 3;", 1, 7);
            badWay("go 1 2 3 for 3;", 1, 7);
            badWay("go 1 2 for ;", 1, 11);
            badWay("go 1 2 for 3 4;", 1, 13);
            badWay("go 1 2;", 1, 6);
            badWay("for 3;", 1, 0);
            badWay("hold ;", 1, 5);
            badWay("hold 3 hold 3;", 1, 7);
            badWay("hold for 3;", 1, 5);
            badWay("times (hold 1;)", 1, 6);
            badWay("times 2 hold 1;)", 1, 8);
            badWay("times 2;", 1, 7);
            badWay("times 2(;)", 1, 8);
            badWay("times 2(hold 1)", 1, 14);
            badWay("times 2(hold 1;);", 1, 16);
            badWay("(hold 1;)", 1, 0);
            badWay("hold 1;;", 1, 7);
            badWay("piece 1 strands 1;", 1, 0);
        });
        sentence("X, Y are -999 to 999", () -> {
            WhipCrack w = new WhipCrack();
            due("the most", Check.way(w, "go 999 -999 for 1;go -999 999 for 1;"), 2);
            dues("x", xs(w, 0), 0, 999, 0);
            dues("y", ys(w, 0), 0, -999, 0);
            badWay("go 1000 0 for 1;", 2, 3);
            badWay("go 0 1000 for 1;", 2, 5);
            badWay("go -1000 0 for 1;", 2, 3);
            badWay("go 0 -1000 for 1;", 2, 5);
        });
        sentence("('-' at once ahead of the figures; else 1 at the byte behind it)", () -> {
            way("go -1 -1 for 1;", 1);
            way("go-1-1for1;", 1);
            badWay("go - 1 1 for 1;", 1, 4);
            badWay("go 1 - 1 for 1;", 1, 6);
            badWay("go --1 1 for 1;", 1, 4);
            badWay("go -a 1 for 1;", 1, 4);
            badWay("go -", 1, 4);
            badWay("go 1 -", 1, 6);
            badWay("go -;", 1, 4);
            badWay("go 1- 1 for 1;", 1, 5);
            badWay("go 1 1 for -1;", 1, 11);
            badWay("hold -1;", 1, 5);
            badWay("times -2(hold 1;)", 1, 6);
        });
        sentence("T 1 .. 30", () -> {
            way("go 1 1 for 1;", 1);
            way("go 1 1 for 30;", 30);
            way("hold 1;", 1);
            way("hold 30;", 30);
            badWay("go 1 1 for 0;", 2, 11);
            badWay("go 1 1 for 31;", 2, 11);
            badWay("hold 0;", 2, 5);
            badWay("hold 31;", 2, 5);
        });
        sentence("M 2 .. 9", () -> {
            for (int m = 2; m <= 9; m++) {
                way("times " + m + "(hold 2;)", 2 * m);
            }
            badWay("times 0(hold 2;)", 2, 6);
            badWay("times 1(hold 2;)", 2, 6);
            badWay("times 10(hold 2;)", 2, 6);
        });
        sentence("three deep at most", () -> {
            way("times 2(times 2(times 2(hold 1;)))", 8);
            way("times 2(times 2(times 2(hold 1;)times 2(hold 1;))times 2(times 2(hold 1;)))", 24);
            way("times 2(times 2(times 2(hold 1;)))times 2(times 2(times 2(hold 1;)))", 16);
            badWay("times 2(times 2(times 2(times 2(hold 1;))))", 3, 24);
        });
        sentence("'go' moves it by X, Y in T TICKS: behind i of them it has gone X times i / T, Y times i / T", () -> {
            WhipCrack w = new WhipCrack();
            Check.way(w, "go 7 -7 for 3;go -7 7 for 2;hold 1;");
            dues("x", xs(w, 0), 0, 2, 4, 7, 4, 0, 0);
            dues("y", ys(w, 0), 0, -2, -4, -7, -4, 0, 0);
            Check.way(w, "go 999 -999 for 30;");
            due("x behind 1", w.joint(0, 1, 0), 33);
            due("x behind 29", w.joint(0, 29, 0), 965);
            due("y behind 29", w.joint(0, 29, 1), -965);
            due("x behind all", w.joint(0, 30, 0), 999);
            Check.way(w, "go 1 -1 for 30;");
            due("x behind 29 of 30", w.joint(0, 29, 0), 0);
            due("y behind 30 of 30", w.joint(0, 30, 1), -1);
        });
        sentence("A WAY has 1 to 60 TICKS", () -> {
            way("hold 1;", 1);
            way("hold 30;hold 30;", 60);
            way("times 2(hold 30;)", 60);
            way("times 9(hold 6;)hold 6;", 60);
            badWay("hold 30;hold 30;hold 1;", 4, 23);
            badWay("times 9(hold 6;)hold 7;", 4, 23);
            badWay("times 2(hold 30;)hold 1;", 4, 24);
            // Sixty clauses of a TICK each, and one more: by itself, or as the last one of 'times'.
            way("times 9(times 6(hold 1;))times 6(hold 1;)", 60);
            badWay("times 9(times 6(hold 1;))times 6(hold 1;)hold 1;", 4, 48);
            badWay("times 9(times 6(hold 1;))times 6(hold 1;)go 1 1 for 1;", 4, 54);
            badWay("times 9(times 6(hold 1;))times 7(hold 1;)", 4, 41);
            WhipCrack w = new WhipCrack();
            Check.way(w, "times 6(times 2(times 5(go 1 -1 for 1;)))");
            due("sixty clauses", w.count(3), 60);
            due("x in TICK 60", w.joint(0, 60, 0), 60);
            due("y in TICK 60", w.joint(0, 60, 1), -60);
        });
        sentence("NUMBERS, words, blanks as told", () -> {
            way("go 001 -002 for 003;", 3);
            way(" times 2 ( go 1 1 for 1 ; hold 1 ; ) ", 4);
            way("times2(go1 1for1;hold1;)", 4);
            badWay("go 11for1;", 1, 5);
            badWay("hold 0001;", 2, 5);
            badWay("ho ld 1;", 1, 0);
            badWay("hold 1 0;", 1, 7);
            badWay("Hold 1;", 1, 0);
            badWay("hold\t1;", 1, 4);
            badWay("hold 1;" + (char) 160, 1, 7);
        });
        sentence("At first it is go 0 0 for 1", () -> {
            WhipCrack w = new WhipCrack();
            due("TICKS", w.count(2), 1);
            due("clauses", w.count(3), 1);
            dues("x", xs(w, 0), 0, 0);
            dues("y", ys(w, 0), 0, 0);
            due("TICK 2", w.joint(0, 2, 0), UNKNOWN);
        });
    }

    private void wayFaults() {
        sentence("FAULTS: 1, 2 as told (2 at the '-', if there is one)", () -> {
            badWay("go  -1000 0 for 1;", 2, 4);
            badWay("go 0 -0000 for 1;", 2, 5);
            badWay("go 0-1000 for 1;", 2, 4);
            badWay("go  1000 0 for 1;", 2, 4);
            way("go -000 0 for 1;", 1);
            way("go -999 0 for 1;", 1);
            badWay("go 1 1 far 1;", 1, 7);
            badWay("go 1 1 for 1", 1, 12);
            badWay("go 1 1 for 1 ", 1, 13);
            badWay("hold 1;hol", 1, 7);
            badWay("hold 99 x", 2, 5);
        });
        sentence("3 a fourth 'times' within one another (at its first letter)", () -> {
            badWay("times 2(times 2(times 2(hold 1;times 2(hold 1;))))", 3, 31);
            badWay("times 2(times 2(times 2(  times", 3, 26);
            badWay("times 2(times 2(times 2(times 99(", 3, 24);
            badWay("times 2(times 2(times 2(timess 2(hold 1;))))", 1, 24);
            badWay("times 2(times 2(times 2(go times 1 for 1;)))", 1, 27);
            way("times 2(times 2(times 2(hold 1;)times 2(hold 1;)))", 16);
        });
        sentence("4 more than 60 TICKS (at the end, if there is no other FAULT)", () -> {
            badWay("hold 30;hold 30;hold 1;", 4, 23);
            badWay("hold 30;hold 30;hold 1;   ", 4, 26);
            badWay("times 9(times 9(times 9(hold 30;)))", 4, 35);
            badWay(padded("times 9(times 9(times 9(hold 30;)))", 160), 4, 160);
            badWay("hold 30;hold 30;hold 1;x", 1, 23);
            badWay("hold 30;hold 30;hold 31;", 2, 21);
            badWay("hold 30;hold 30;hold 1", 1, 22);
            badWay("times 3(hold 30;times 2(times 2(times 2(", 3, 32);
            badWay("times 3(hold 30;", 1, 16);
        });
    }

    // ------------------------------------------------------------ promises 1 to 6, 9

    private void feeding() {
        sentence("A PLAIT, a WAY, LAWS as at first; GIVEN 100.", () -> {
            WhipCrack w = new WhipCrack();
            long[] counts = new long[10];
            for (int what = 0; what < 10; what++) {
                counts[what] = w.count(what);
            }
            dues("count", counts, 4, 50, 1, 1, 0, 20, 0, 0, 0, 100);
            dues("WEAR", pieces(w, 4), 0, 0, 0, 0);
            dues("its THROW, TICK 0", row(new WhipCrack(), 0), 0, 50, 100, 150, 200);
            dues("its THROW, TICK 1", row(new WhipCrack(), 1), 0, 50, 100, 150, 200);
            dues("THE TIP falls by FALL", ys(new WhipCrack(), 4), 0, -3);
            dues("LAWS", new long[] {w.law(AIR, 0), w.law(FALL, 0), w.law(ROUNDS, 1), w.law(PACE, 10), w.law(LASTS, 1)},
                2, 3, 3, 150, 5000);
        });
        sentence("Up to eight bytes (n 1 .. 8) of a long, the highest of these first", () -> {
            for (int n = 1; n <= 8; n++) {
                WhipCrack w = new WhipCrack();
                due("feed(" + n + ")", w.feed(n, 0x2020202020202020L), n);
            }
            WhipCrack w = new WhipCrack();
            w.feed(8, Check.packed("hold 12;", 0, 8));
            due("eight bytes", w.way(), 12);
            w.feed(7, Check.packed("xhold 3;", 0, 8));
            due("the highest is none of seven", w.way(), 3);
            Check.feed(w, "hold 4");
            w.feed(1, Check.packed("xxxxxxx;", 0, 8));
            due("the lowest is the one", w.way(), 4);
            w.feed(8, -1L);
            due("bytes of 255", w.way(), -11);
            refused("feed(0, ..)", x -> x.feed(0, 0x3B3B3B3B3B3B3B3BL), OUTSIDE);
            refused("feed(9, ..)", x -> x.feed(9, 0x3B3B3B3B3B3B3B3BL), OUTSIDE);
            refused("feed(-1, ..)", x -> x.feed(-1, 0x3B3B3B3B3B3B3B3BL), OUTSIDE);
            refused("feed(least, ..)", x -> x.feed(LEAST, 0), OUTSIDE);
            refused("feed(most, ..)", x -> x.feed(MOST, 0), OUTSIDE);
        });
        sentence("come behind THE TEXT (160 at most): how many it has. OUTSIDE, FULL.", () -> {
            for (int n = 1; n <= 8; n++) {
                int many = n;
                WhipCrack w = new WhipCrack();
                Check.feed(w, blanks(160 - n));
                due(n + " behind " + (160 - n), w.feed(n, 0x2020202020202020L), 160);
                refused(Bounds::withFullText, "feed(" + n + ") behind 160", x -> x.feed(many, 0), FULL);
                WhipCrack more = new WhipCrack();
                Check.feed(more, blanks(161 - n));
                due(n + " behind " + (161 - n), more.feed(n, 0x2020202020202020L), FULL);
                due("none of them came", more.count(4), 161 - n);
            }
            refused(Bounds::withFullText, "feed(9) behind 160", x -> x.feed(9, 0), OUTSIDE);
            refused(Bounds::withFullText, "feed(0) behind 160", x -> x.feed(0, 0), OUTSIDE);
        });
    }

    /** What was asked of THE PLAIT ahead is not told of the new one, nor is what was asked of THE WAY ahead. */
    private void thrownAnew() {
        WhipCrack w = whip("piece 2 strands 1 stuff 2;", "go -100 0 for 1;", 50, 0);
        dues("THE TIP of two PIECES", new long[] {w.joint(2, 1, 0), w.aim(0, 0, 1, 1, 0), w.loudest(96, 1)}, 0, 0, 12);
        Check.plait(w, "length 20;" + SILK);
        dues("THE TIP of one", new long[] {w.joint(1, 1, 0), w.aim(0, 0, 1, 1, 0), w.loudest(96, 0), w.loudest(96, 1)}, -80, 80, 12, NONE);
        Check.plait(w, "length 20;piece 3 strands 1 stuff 2;");
        dues("THE TIP of three", new long[] {w.joint(3, 1, 0), w.aim(0, 0, 1, 1, 0), w.loudest(96, 2)}, -40, 40, 12);
        Check.way(w, "go -200 0 for 1;");
        dues("another WAY", new long[] {w.joint(3, 1, 0), w.aim(0, 0, 1, 1, 0), w.loudest(96, NONE)}, -140, 140, 200);
    }

    private void reading() {
        sentence("THE TEXT (it is empty then) becomes THE PLAIT (WEAR 0): how many PIECES; -10 less the number of its FAULT (it is as it was).", () -> {
            WhipCrack w = used();
            due("it wore", w.piece(0, 4) > 0 ? 1 : 0, 1);
            w.way();
            due("how many", Check.plait(w, "piece 2 strands 9 stuff 3;piece 1 strands 5;piece 2 strands 2 stuff 2;"), 5);
            due("THE TEXT is empty", w.count(4), 0);
            dues("WEAR", pieces(w, 4), 0, 0, 0, 0, 0);
            due("an empty text", w.plait(), -11);
            thrownAnew();
            int[] numbers = {11, 12, 13, 14, 15};
            String[] texts = {"x", "piece 0", "piece 1 strands 1;piece 1 strands 2;", "piece 12 strands 1;piece 1", "length 50;length"};
            for (int i = 0; i < texts.length; i++) {
                WhipCrack f = used();
                f.way();
                due("'" + texts[i] + "'", Check.plait(f, texts[i]), -numbers[i]);
                due("THE TEXT is empty behind '" + texts[i] + "'", f.count(4), 0);
                // The same FAULT and the same half of a text as ahead: then all is as it was.
                Check.plait(f, FAULTY);
                Check.feed(f, "hold 4");
                unchanged(Bounds::used, "'" + texts[i] + "'", f);
            }
        });
        sentence("THE TEXT (it is empty then) becomes THE WAY: how many TICKS; -10 less the number of its FAULT (it is as it was).", () -> {
            WhipCrack w = used();
            long worn = w.piece(0, 4);
            w.plait();
            due("how many", Check.way(w, "hold 9;"), 9);
            due("THE TEXT is empty", w.count(4), 0);
            due("WEAR stays", w.piece(0, 4), worn);
            due("an empty text", w.way(), -11);
            int[] numbers = {11, 12, 13, 14};
            String[] texts = {"x", "hold 0", "times 2(times 2(times 2(times", "hold 30;hold 30;hold 1;"};
            for (int i = 0; i < texts.length; i++) {
                WhipCrack f = used();
                f.plait();
                due("'" + texts[i] + "'", Check.way(f, texts[i]), -numbers[i]);
                due("THE TEXT is empty behind '" + texts[i] + "'", f.count(4), 0);
                Check.plait(f, FAULTY);
                Check.feed(f, "hold 4");
                unchanged(Bounds::used, "'" + texts[i] + "'", f);
            }
        });
        sentence("The byte of the FAULT of the latest plait() or way(); NONE.", () -> {
            WhipCrack w = new WhipCrack();
            due("neither yet", w.fault(), NONE);
            w.plait();
            due("at byte 0", w.fault(), 0);
            Check.way(w, padded("hold 1", 160));
            due("at byte 160", w.fault(), 160);
            due("asked again", w.fault(), 160);
            Check.plait(w, "piece 0");
            due("the latest one", w.fault(), 6);
            Check.way(w, "hold 1;");
            due("none in the latest", w.fault(), NONE);
            w.way();
            Check.plait(w, "piece 1 strands 1;");
            due("none in the latest", w.fault(), NONE);
        });
    }

    private void askingBack() {
        sentence("4 WEAR, 5 whether the PIECE ahead has more STRANDS (1, 0). UNKNOWN, OUTSIDE.", () -> {
            WhipCrack w = used();
            dues("STRANDS", pieces(w, 0), 9, 9, 5, 2, 2);
            dues("fewer than ahead", pieces(w, 5), 0, 0, 1, 1, 0);
            for (int what = 0; what <= 5; what++) {
                int of = what;
                due("piece(4, " + what + ") is none of the refusals", w.piece(4, what) >= 0 ? 1 : 0, 1);
                refused("piece(5, " + what + ")", x -> x.piece(5, of), UNKNOWN);
                refused("piece(-1, " + what + ")", x -> x.piece(-1, of), UNKNOWN);
            }
            refused("piece(0, -1)", x -> x.piece(0, -1), OUTSIDE);
            refused("piece(4, 6)", x -> x.piece(4, 6), OUTSIDE);
            refused("piece(5, 6)", x -> x.piece(5, 6), UNKNOWN);
            refused("piece(most, 0)", x -> x.piece(MOST, 0), UNKNOWN);
            refused("piece(least, 0)", x -> x.piece(LEAST, 0), UNKNOWN);
            refused("piece(0, least)", x -> x.piece(0, LEAST), OUTSIDE);
            WhipCrack most = new WhipCrack();
            Check.plait(most, "piece 12 strands 16;");
            due("PIECE 11", most.piece(11, 0), 16);
            due("PIECE 12", most.piece(12, 0), UNKNOWN);
        });
        sentence("3 clauses 'go' and 'hold' as they are done, 4 bytes of THE TEXT, 5 STRANDS in all, 6 HIDES, 7 STRANDS to be cut, "
            + "8 places of THE FILM, 9 GIVEN. OUTSIDE.", () -> {
            WhipCrack w = used();
            long[] counts = new long[10];
            for (int what = 0; what < 10; what++) {
                counts[what] = w.count(what);
            }
            dues("count", counts, 5, 60, 8, 4, 6, 27, 2, 2, 2, 80);
            refused("count(-1)", x -> x.count(-1), OUTSIDE);
            refused("count(10)", x -> x.count(10), OUTSIDE);
            refused("count(least)", x -> x.count(LEAST), OUTSIDE);
            refused("count(most)", x -> x.count(MOST), OUTSIDE);
            due("full text", withFullText().count(4), 160);
            due("full hides", withFullHides().count(6), 6);
            due("full strands", withFullHides().count(7), 8);
            due("full film", withFullFilm().count(8), 60);
            due("empty film", withoutFilm().count(8), 0);
        });
    }
}
