/-! StreamWatch: flowOfPacket, holdData, ruleAt (by program: wip/whole/src_sw3.py) -/
abbrev cRs (rl : List (Option Nat)) : mj_C := .inl (4, 6, .inr (.inr rl))
theorem fOf_cases (ch cp sh sp : Nat → Int32) (lv : Nat → Bool) (fh fp th tp : Int32) : fOf ch cp sh sp lv fh fp th tp 4 0 = none ∨ fOf ch cp sh sp lv fh fp th tp 4 0 = some 0 ∨ fOf ch cp sh sp lv fh fp th tp 4 0 = some 1 ∨ fOf ch cp sh sp lv fh fp th tp 4 0 = some 2 ∨ fOf ch cp sh sp lv fh fp th tp 4 0 = some 3 := by
  unfold fOf
  by_cases h0 : fIs ch cp sh sp lv fh fp th tp 0
  · exact Or.inr (Or.inl (if_pos h0))
  rw [if_neg h0]
  unfold fOf
  by_cases h1 : fIs ch cp sh sp lv fh fp th tp (0 + 1)
  · exact Or.inr (Or.inr (Or.inl (if_pos h1)))
  rw [if_neg h1]
  unfold fOf
  by_cases h2 : fIs ch cp sh sp lv fh fp th tp (0 + 1 + 1)
  · exact Or.inr (Or.inr (Or.inr (Or.inl (if_pos h2))))
  rw [if_neg h2]
  unfold fOf
  by_cases h3 : fIs ch cp sh sp lv fh fp th tp (0 + 1 + 1 + 1)
  · exact Or.inr (Or.inr (Or.inr (Or.inr (if_pos h3))))
  rw [if_neg h3]
  exact Or.inl rfl
section SWC
variable (l : Launch) (D : va_G) (cA : Nat → ClassId) (st : Bool) (rc : Nat) (ph : Int32) (ch cp sh sp ha : Nat → Int32) (lv : Nat → Bool) (tx hd : Nat → Nat → Int32) (ts : Nat → Nat) (hs nx rr : Nat → Int32) (bg en : Nat → Bool) (fh fp th tp fn ds dz fg : Int32)

set_option maxRecDepth 100000 in
set_option maxHeartbeats 8000000 in
theorem ev_Sw_flowOfPacket : E_Sw_flowOfPacket l D cA 0 0 [.ref 50] [(50, cSw st rc), (0, .inr (2, [.ref 1, .int ph])), (1, .inl (3, 4, .inr (.inr [some 2, some 3, some 4, some 5]))), (2, cFl 6 7 (ch 0) (cp 0) (sh 0) (sp 0) (ha 0) (lv 0)), (3, cFl 8 9 (ch 1) (cp 1) (sh 1) (sp 1) (ha 1) (lv 1)), (4, cFl 10 11 (ch 2) (cp 2) (sh 2) (sp 2) (ha 2) (lv 2)), (5, cFl 12 13 (ch 3) (cp 3) (sh 3) (sp 3) (ha 3) (lv 3)), (6, cSm 14 15 (ts 0) (hs 0) (nx 0) (rr 0) (bg 0) (en 0)), (14, cIs 80 (tx 0)), (15, cIs 32 (hd 0)), (7, cSm 16 17 (ts 1) (hs 1) (nx 1) (rr 1) (bg 1) (en 1)), (16, cIs 80 (tx 1)), (17, cIs 32 (hd 1)), (8, cSm 18 19 (ts 2) (hs 2) (nx 2) (rr 2) (bg 2) (en 2)), (18, cIs 80 (tx 2)), (19, cIs 32 (hd 2)), (9, cSm 20 21 (ts 3) (hs 3) (nx 3) (rr 3) (bg 3) (en 3)), (20, cIs 80 (tx 3)), (21, cIs 32 (hd 3)), (10, cSm 22 23 (ts 4) (hs 4) (nx 4) (rr 4) (bg 4) (en 4)), (22, cIs 80 (tx 4)), (23, cIs 32 (hd 4)), (11, cSm 24 25 (ts 5) (hs 5) (nx 5) (rr 5) (bg 5) (en 5)), (24, cIs 80 (tx 5)), (25, cIs 32 (hd 5)), (12, cSm 26 27 (ts 6) (hs 6) (nx 6) (rr 6) (bg 6) (en 6)), (26, cIs 80 (tx 6)), (27, cIs 32 (hd 6)), (13, cSm 28 29 (ts 7) (hs 7) (nx 7) (rr 7) (bg 7) (en 7)), (28, cIs 80 (tx 7)), (29, cIs 32 (hd 7)), (40, cPk fh fp th tp fn ds dz fg)] (fun _ => True) (fun r1 w1 => (fOf ch cp sh sp lv fh fp th tp 4 0 = some 0 ∧ r1 = some (.ref 2) ∧ w1 = [(50, cSw st rc), (0, .inr (2, [.ref 1, .int ph])), (1, .inl (3, 4, .inr (.inr [some 2, some 3, some 4, some 5]))), (2, cFl 6 7 (ch 0) (cp 0) (sh 0) (sp 0) (ha 0) (lv 0)), (3, cFl 8 9 (ch 1) (cp 1) (sh 1) (sp 1) (ha 1) (lv 1)), (4, cFl 10 11 (ch 2) (cp 2) (sh 2) (sp 2) (ha 2) (lv 2)), (5, cFl 12 13 (ch 3) (cp 3) (sh 3) (sp 3) (ha 3) (lv 3)), (6, cSm 14 15 (ts 0) (hs 0) (nx 0) (rr 0) (bg 0) (en 0)), (14, cIs 80 (tx 0)), (15, cIs 32 (hd 0)), (7, cSm 16 17 (ts 1) (hs 1) (nx 1) (rr 1) (bg 1) (en 1)), (16, cIs 80 (tx 1)), (17, cIs 32 (hd 1)), (8, cSm 18 19 (ts 2) (hs 2) (nx 2) (rr 2) (bg 2) (en 2)), (18, cIs 80 (tx 2)), (19, cIs 32 (hd 2)), (9, cSm 20 21 (ts 3) (hs 3) (nx 3) (rr 3) (bg 3) (en 3)), (20, cIs 80 (tx 3)), (21, cIs 32 (hd 3)), (10, cSm 22 23 (ts 4) (hs 4) (nx 4) (rr 4) (bg 4) (en 4)), (22, cIs 80 (tx 4)), (23, cIs 32 (hd 4)), (11, cSm 24 25 (ts 5) (hs 5) (nx 5) (rr 5) (bg 5) (en 5)), (24, cIs 80 (tx 5)), (25, cIs 32 (hd 5)), (12, cSm 26 27 (ts 6) (hs 6) (nx 6) (rr 6) (bg 6) (en 6)), (26, cIs 80 (tx 6)), (27, cIs 32 (hd 6)), (13, cSm 28 29 (ts 7) (hs 7) (nx 7) (rr 7) (bg 7) (en 7)), (28, cIs 80 (tx 7)), (29, cIs 32 (hd 7)), (40, cPk fh fp th tp fn ds dz fg)]) ∨ (fOf ch cp sh sp lv fh fp th tp 4 0 = some 1 ∧ r1 = some (.ref 3) ∧ w1 = [(50, cSw st rc), (0, .inr (2, [.ref 1, .int ph])), (1, .inl (3, 4, .inr (.inr [some 2, some 3, some 4, some 5]))), (2, cFl 6 7 (ch 0) (cp 0) (sh 0) (sp 0) (ha 0) (lv 0)), (3, cFl 8 9 (ch 1) (cp 1) (sh 1) (sp 1) (ha 1) (lv 1)), (4, cFl 10 11 (ch 2) (cp 2) (sh 2) (sp 2) (ha 2) (lv 2)), (5, cFl 12 13 (ch 3) (cp 3) (sh 3) (sp 3) (ha 3) (lv 3)), (6, cSm 14 15 (ts 0) (hs 0) (nx 0) (rr 0) (bg 0) (en 0)), (14, cIs 80 (tx 0)), (15, cIs 32 (hd 0)), (7, cSm 16 17 (ts 1) (hs 1) (nx 1) (rr 1) (bg 1) (en 1)), (16, cIs 80 (tx 1)), (17, cIs 32 (hd 1)), (8, cSm 18 19 (ts 2) (hs 2) (nx 2) (rr 2) (bg 2) (en 2)), (18, cIs 80 (tx 2)), (19, cIs 32 (hd 2)), (9, cSm 20 21 (ts 3) (hs 3) (nx 3) (rr 3) (bg 3) (en 3)), (20, cIs 80 (tx 3)), (21, cIs 32 (hd 3)), (10, cSm 22 23 (ts 4) (hs 4) (nx 4) (rr 4) (bg 4) (en 4)), (22, cIs 80 (tx 4)), (23, cIs 32 (hd 4)), (11, cSm 24 25 (ts 5) (hs 5) (nx 5) (rr 5) (bg 5) (en 5)), (24, cIs 80 (tx 5)), (25, cIs 32 (hd 5)), (12, cSm 26 27 (ts 6) (hs 6) (nx 6) (rr 6) (bg 6) (en 6)), (26, cIs 80 (tx 6)), (27, cIs 32 (hd 6)), (13, cSm 28 29 (ts 7) (hs 7) (nx 7) (rr 7) (bg 7) (en 7)), (28, cIs 80 (tx 7)), (29, cIs 32 (hd 7)), (40, cPk fh fp th tp fn ds dz fg)]) ∨ (fOf ch cp sh sp lv fh fp th tp 4 0 = some 2 ∧ r1 = some (.ref 4) ∧ w1 = [(50, cSw st rc), (0, .inr (2, [.ref 1, .int ph])), (1, .inl (3, 4, .inr (.inr [some 2, some 3, some 4, some 5]))), (2, cFl 6 7 (ch 0) (cp 0) (sh 0) (sp 0) (ha 0) (lv 0)), (3, cFl 8 9 (ch 1) (cp 1) (sh 1) (sp 1) (ha 1) (lv 1)), (4, cFl 10 11 (ch 2) (cp 2) (sh 2) (sp 2) (ha 2) (lv 2)), (5, cFl 12 13 (ch 3) (cp 3) (sh 3) (sp 3) (ha 3) (lv 3)), (6, cSm 14 15 (ts 0) (hs 0) (nx 0) (rr 0) (bg 0) (en 0)), (14, cIs 80 (tx 0)), (15, cIs 32 (hd 0)), (7, cSm 16 17 (ts 1) (hs 1) (nx 1) (rr 1) (bg 1) (en 1)), (16, cIs 80 (tx 1)), (17, cIs 32 (hd 1)), (8, cSm 18 19 (ts 2) (hs 2) (nx 2) (rr 2) (bg 2) (en 2)), (18, cIs 80 (tx 2)), (19, cIs 32 (hd 2)), (9, cSm 20 21 (ts 3) (hs 3) (nx 3) (rr 3) (bg 3) (en 3)), (20, cIs 80 (tx 3)), (21, cIs 32 (hd 3)), (10, cSm 22 23 (ts 4) (hs 4) (nx 4) (rr 4) (bg 4) (en 4)), (22, cIs 80 (tx 4)), (23, cIs 32 (hd 4)), (11, cSm 24 25 (ts 5) (hs 5) (nx 5) (rr 5) (bg 5) (en 5)), (24, cIs 80 (tx 5)), (25, cIs 32 (hd 5)), (12, cSm 26 27 (ts 6) (hs 6) (nx 6) (rr 6) (bg 6) (en 6)), (26, cIs 80 (tx 6)), (27, cIs 32 (hd 6)), (13, cSm 28 29 (ts 7) (hs 7) (nx 7) (rr 7) (bg 7) (en 7)), (28, cIs 80 (tx 7)), (29, cIs 32 (hd 7)), (40, cPk fh fp th tp fn ds dz fg)]) ∨ (fOf ch cp sh sp lv fh fp th tp 4 0 = some 3 ∧ r1 = some (.ref 5) ∧ w1 = [(50, cSw st rc), (0, .inr (2, [.ref 1, .int ph])), (1, .inl (3, 4, .inr (.inr [some 2, some 3, some 4, some 5]))), (2, cFl 6 7 (ch 0) (cp 0) (sh 0) (sp 0) (ha 0) (lv 0)), (3, cFl 8 9 (ch 1) (cp 1) (sh 1) (sp 1) (ha 1) (lv 1)), (4, cFl 10 11 (ch 2) (cp 2) (sh 2) (sp 2) (ha 2) (lv 2)), (5, cFl 12 13 (ch 3) (cp 3) (sh 3) (sp 3) (ha 3) (lv 3)), (6, cSm 14 15 (ts 0) (hs 0) (nx 0) (rr 0) (bg 0) (en 0)), (14, cIs 80 (tx 0)), (15, cIs 32 (hd 0)), (7, cSm 16 17 (ts 1) (hs 1) (nx 1) (rr 1) (bg 1) (en 1)), (16, cIs 80 (tx 1)), (17, cIs 32 (hd 1)), (8, cSm 18 19 (ts 2) (hs 2) (nx 2) (rr 2) (bg 2) (en 2)), (18, cIs 80 (tx 2)), (19, cIs 32 (hd 2)), (9, cSm 20 21 (ts 3) (hs 3) (nx 3) (rr 3) (bg 3) (en 3)), (20, cIs 80 (tx 3)), (21, cIs 32 (hd 3)), (10, cSm 22 23 (ts 4) (hs 4) (nx 4) (rr 4) (bg 4) (en 4)), (22, cIs 80 (tx 4)), (23, cIs 32 (hd 4)), (11, cSm 24 25 (ts 5) (hs 5) (nx 5) (rr 5) (bg 5) (en 5)), (24, cIs 80 (tx 5)), (25, cIs 32 (hd 5)), (12, cSm 26 27 (ts 6) (hs 6) (nx 6) (rr 6) (bg 6) (en 6)), (26, cIs 80 (tx 6)), (27, cIs 32 (hd 6)), (13, cSm 28 29 (ts 7) (hs 7) (nx 7) (rr 7) (bg 7) (en 7)), (28, cIs 80 (tx 7)), (29, cIs 32 (hd 7)), (40, cPk fh fp th tp fn ds dz fg)]) ∨ (fOf ch cp sh sp lv fh fp th tp 4 0 = none ∧ ¬ (¬ fg &&& 2 = 0 ∧ fg &&& 16 = 0) ∧ r1 = some .null ∧ w1 = [(50, cSw st rc), (0, .inr (2, [.ref 1, .int ph])), (1, .inl (3, 4, .inr (.inr [some 2, some 3, some 4, some 5]))), (2, cFl 6 7 (ch 0) (cp 0) (sh 0) (sp 0) (ha 0) (lv 0)), (3, cFl 8 9 (ch 1) (cp 1) (sh 1) (sp 1) (ha 1) (lv 1)), (4, cFl 10 11 (ch 2) (cp 2) (sh 2) (sp 2) (ha 2) (lv 2)), (5, cFl 12 13 (ch 3) (cp 3) (sh 3) (sp 3) (ha 3) (lv 3)), (6, cSm 14 15 (ts 0) (hs 0) (nx 0) (rr 0) (bg 0) (en 0)), (14, cIs 80 (tx 0)), (15, cIs 32 (hd 0)), (7, cSm 16 17 (ts 1) (hs 1) (nx 1) (rr 1) (bg 1) (en 1)), (16, cIs 80 (tx 1)), (17, cIs 32 (hd 1)), (8, cSm 18 19 (ts 2) (hs 2) (nx 2) (rr 2) (bg 2) (en 2)), (18, cIs 80 (tx 2)), (19, cIs 32 (hd 2)), (9, cSm 20 21 (ts 3) (hs 3) (nx 3) (rr 3) (bg 3) (en 3)), (20, cIs 80 (tx 3)), (21, cIs 32 (hd 3)), (10, cSm 22 23 (ts 4) (hs 4) (nx 4) (rr 4) (bg 4) (en 4)), (22, cIs 80 (tx 4)), (23, cIs 32 (hd 4)), (11, cSm 24 25 (ts 5) (hs 5) (nx 5) (rr 5) (bg 5) (en 5)), (24, cIs 80 (tx 5)), (25, cIs 32 (hd 5)), (12, cSm 26 27 (ts 6) (hs 6) (nx 6) (rr 6) (bg 6) (en 6)), (26, cIs 80 (tx 6)), (27, cIs 32 (hd 6)), (13, cSm 28 29 (ts 7) (hs 7) (nx 7) (rr 7) (bg 7) (en 7)), (28, cIs 80 (tx 7)), (29, cIs 32 (hd 7)), (40, cPk fh fp th tp fn ds dz fg)]) ∨ (fOf ch cp sh sp lv fh fp th tp 4 0 = none ∧ (¬ fg &&& 2 = 0 ∧ fg &&& 16 = 0) ∧ fSel lv ha 3 1 0 = 0 ∧ r1 = some (.ref 2) ∧ w1 = [(50, cSw st rc), (0, .inr (2, [.ref 1, .int ph])), (1, .inl (3, 4, .inr (.inr [some 2, some 3, some 4, some 5]))), (2, cFl 6 7 fh fp th tp (ha 0) true), (3, cFl 8 9 (ch 1) (cp 1) (sh 1) (sp 1) (ha 1) (lv 1)), (4, cFl 10 11 (ch 2) (cp 2) (sh 2) (sp 2) (ha 2) (lv 2)), (5, cFl 12 13 (ch 3) (cp 3) (sh 3) (sp 3) (ha 3) (lv 3)), (6, cSm 14 15 0 0 0 0 false false), (14, cIs 80 (tx 0)), (15, cIs 32 (sFill 32 0 (hd 0))), (7, cSm 16 17 0 0 0 0 false false), (16, cIs 80 (tx 1)), (17, cIs 32 (sFill 32 0 (hd 1))), (8, cSm 18 19 (ts 2) (hs 2) (nx 2) (rr 2) (bg 2) (en 2)), (18, cIs 80 (tx 2)), (19, cIs 32 (hd 2)), (9, cSm 20 21 (ts 3) (hs 3) (nx 3) (rr 3) (bg 3) (en 3)), (20, cIs 80 (tx 3)), (21, cIs 32 (hd 3)), (10, cSm 22 23 (ts 4) (hs 4) (nx 4) (rr 4) (bg 4) (en 4)), (22, cIs 80 (tx 4)), (23, cIs 32 (hd 4)), (11, cSm 24 25 (ts 5) (hs 5) (nx 5) (rr 5) (bg 5) (en 5)), (24, cIs 80 (tx 5)), (25, cIs 32 (hd 5)), (12, cSm 26 27 (ts 6) (hs 6) (nx 6) (rr 6) (bg 6) (en 6)), (26, cIs 80 (tx 6)), (27, cIs 32 (hd 6)), (13, cSm 28 29 (ts 7) (hs 7) (nx 7) (rr 7) (bg 7) (en 7)), (28, cIs 80 (tx 7)), (29, cIs 32 (hd 7)), (40, cPk fh fp th tp fn ds dz fg)]) ∨ (fOf ch cp sh sp lv fh fp th tp 4 0 = none ∧ (¬ fg &&& 2 = 0 ∧ fg &&& 16 = 0) ∧ fSel lv ha 3 1 0 = 1 ∧ r1 = some (.ref 3) ∧ w1 = [(50, cSw st rc), (0, .inr (2, [.ref 1, .int ph])), (1, .inl (3, 4, .inr (.inr [some 2, some 3, some 4, some 5]))), (2, cFl 6 7 (ch 0) (cp 0) (sh 0) (sp 0) (ha 0) (lv 0)), (3, cFl 8 9 fh fp th tp (ha 1) true), (4, cFl 10 11 (ch 2) (cp 2) (sh 2) (sp 2) (ha 2) (lv 2)), (5, cFl 12 13 (ch 3) (cp 3) (sh 3) (sp 3) (ha 3) (lv 3)), (6, cSm 14 15 (ts 0) (hs 0) (nx 0) (rr 0) (bg 0) (en 0)), (14, cIs 80 (tx 0)), (15, cIs 32 (hd 0)), (7, cSm 16 17 (ts 1) (hs 1) (nx 1) (rr 1) (bg 1) (en 1)), (16, cIs 80 (tx 1)), (17, cIs 32 (hd 1)), (8, cSm 18 19 0 0 0 0 false false), (18, cIs 80 (tx 2)), (19, cIs 32 (sFill 32 0 (hd 2))), (9, cSm 20 21 0 0 0 0 false false), (20, cIs 80 (tx 3)), (21, cIs 32 (sFill 32 0 (hd 3))), (10, cSm 22 23 (ts 4) (hs 4) (nx 4) (rr 4) (bg 4) (en 4)), (22, cIs 80 (tx 4)), (23, cIs 32 (hd 4)), (11, cSm 24 25 (ts 5) (hs 5) (nx 5) (rr 5) (bg 5) (en 5)), (24, cIs 80 (tx 5)), (25, cIs 32 (hd 5)), (12, cSm 26 27 (ts 6) (hs 6) (nx 6) (rr 6) (bg 6) (en 6)), (26, cIs 80 (tx 6)), (27, cIs 32 (hd 6)), (13, cSm 28 29 (ts 7) (hs 7) (nx 7) (rr 7) (bg 7) (en 7)), (28, cIs 80 (tx 7)), (29, cIs 32 (hd 7)), (40, cPk fh fp th tp fn ds dz fg)]) ∨ (fOf ch cp sh sp lv fh fp th tp 4 0 = none ∧ (¬ fg &&& 2 = 0 ∧ fg &&& 16 = 0) ∧ fSel lv ha 3 1 0 = 2 ∧ r1 = some (.ref 4) ∧ w1 = [(50, cSw st rc), (0, .inr (2, [.ref 1, .int ph])), (1, .inl (3, 4, .inr (.inr [some 2, some 3, some 4, some 5]))), (2, cFl 6 7 (ch 0) (cp 0) (sh 0) (sp 0) (ha 0) (lv 0)), (3, cFl 8 9 (ch 1) (cp 1) (sh 1) (sp 1) (ha 1) (lv 1)), (4, cFl 10 11 fh fp th tp (ha 2) true), (5, cFl 12 13 (ch 3) (cp 3) (sh 3) (sp 3) (ha 3) (lv 3)), (6, cSm 14 15 (ts 0) (hs 0) (nx 0) (rr 0) (bg 0) (en 0)), (14, cIs 80 (tx 0)), (15, cIs 32 (hd 0)), (7, cSm 16 17 (ts 1) (hs 1) (nx 1) (rr 1) (bg 1) (en 1)), (16, cIs 80 (tx 1)), (17, cIs 32 (hd 1)), (8, cSm 18 19 (ts 2) (hs 2) (nx 2) (rr 2) (bg 2) (en 2)), (18, cIs 80 (tx 2)), (19, cIs 32 (hd 2)), (9, cSm 20 21 (ts 3) (hs 3) (nx 3) (rr 3) (bg 3) (en 3)), (20, cIs 80 (tx 3)), (21, cIs 32 (hd 3)), (10, cSm 22 23 0 0 0 0 false false), (22, cIs 80 (tx 4)), (23, cIs 32 (sFill 32 0 (hd 4))), (11, cSm 24 25 0 0 0 0 false false), (24, cIs 80 (tx 5)), (25, cIs 32 (sFill 32 0 (hd 5))), (12, cSm 26 27 (ts 6) (hs 6) (nx 6) (rr 6) (bg 6) (en 6)), (26, cIs 80 (tx 6)), (27, cIs 32 (hd 6)), (13, cSm 28 29 (ts 7) (hs 7) (nx 7) (rr 7) (bg 7) (en 7)), (28, cIs 80 (tx 7)), (29, cIs 32 (hd 7)), (40, cPk fh fp th tp fn ds dz fg)]) ∨ (fOf ch cp sh sp lv fh fp th tp 4 0 = none ∧ (¬ fg &&& 2 = 0 ∧ fg &&& 16 = 0) ∧ fSel lv ha 3 1 0 = 3 ∧ r1 = some (.ref 5) ∧ w1 = [(50, cSw st rc), (0, .inr (2, [.ref 1, .int ph])), (1, .inl (3, 4, .inr (.inr [some 2, some 3, some 4, some 5]))), (2, cFl 6 7 (ch 0) (cp 0) (sh 0) (sp 0) (ha 0) (lv 0)), (3, cFl 8 9 (ch 1) (cp 1) (sh 1) (sp 1) (ha 1) (lv 1)), (4, cFl 10 11 (ch 2) (cp 2) (sh 2) (sp 2) (ha 2) (lv 2)), (5, cFl 12 13 fh fp th tp (ha 3) true), (6, cSm 14 15 (ts 0) (hs 0) (nx 0) (rr 0) (bg 0) (en 0)), (14, cIs 80 (tx 0)), (15, cIs 32 (hd 0)), (7, cSm 16 17 (ts 1) (hs 1) (nx 1) (rr 1) (bg 1) (en 1)), (16, cIs 80 (tx 1)), (17, cIs 32 (hd 1)), (8, cSm 18 19 (ts 2) (hs 2) (nx 2) (rr 2) (bg 2) (en 2)), (18, cIs 80 (tx 2)), (19, cIs 32 (hd 2)), (9, cSm 20 21 (ts 3) (hs 3) (nx 3) (rr 3) (bg 3) (en 3)), (20, cIs 80 (tx 3)), (21, cIs 32 (hd 3)), (10, cSm 22 23 (ts 4) (hs 4) (nx 4) (rr 4) (bg 4) (en 4)), (22, cIs 80 (tx 4)), (23, cIs 32 (hd 4)), (11, cSm 24 25 (ts 5) (hs 5) (nx 5) (rr 5) (bg 5) (en 5)), (24, cIs 80 (tx 5)), (25, cIs 32 (hd 5)), (12, cSm 26 27 0 0 0 0 false false), (26, cIs 80 (tx 6)), (27, cIs 32 (sFill 32 0 (hd 6))), (13, cSm 28 29 0 0 0 0 false false), (28, cIs 80 (tx 7)), (29, cIs 32 (sFill 32 0 (hd 7))), (40, cPk fh fp th tp fn ds dz fg)])) := by
  refine mj_ev (lv := [(0, .ref 50)]) (by decide +kernel) (Nat.le_of_ble_eq_true rfl) rfl (fun X h => ?_)
  refine mj_blk h.1 b_Sw_flowOfPacket_0 rfl trivial ?_
  refine mj_callV h zGood (ev_Ft_of l D cA _ _ _ _ _ _ _ _ _ _ _ _ _ _ _) v_Ft_of l_Sw_flowOfPacket_8 d_Sw_flowOfPacket_8 rfl ⟨by decide, by decide⟩ ⟨by decide, by decide⟩ [] rfl rfl rfl rfl rfl rfl (Nat.le_of_ble_eq_true rfl) ?_
  rintro _ _ ⟨rfl, rfl⟩
  rcases fOf_cases ch cp sh sp lv fh fp th tp with hf | hf | hf | hf | hf
  · rw [hf]
    refine mj_k rfl rfl ?_
    refine mj_blk h.1 b_Sw_flowOfPacket_11 rfl trivial ?_
    refine mj_ifnull_n h.1 d_Sw_flowOfPacket_13 (tgt := 18) (by decide) ?_
    refine mj_blk h.1 b_Sw_flowOfPacket_18 rfl trivial ?_
    refine mj_callV h zGood (ev_Pk_hasFlag l D cA _ _ _ _ _ _ _ _ _) v_Pk_hasFlag l_Sw_flowOfPacket_23 d_Sw_flowOfPacket_23 rfl ⟨by decide, by decide⟩ ⟨by decide, by decide⟩ [(0, 40)] rfl rfl rfl rfl rfl rfl (Nat.le_of_ble_eq_true rfl) ?_
    rintro _ _ ⟨rfl, rfl⟩
    refine mj_k rfl rfl ?_
    first | refine mj_ifeqB h.1 (tgt := 45) d_Sw_flowOfPacket_26 (by decide) (fun h1 => ?_) (fun h1 => ?_) | refine mj_ifeq h.1 (tgt := 45) d_Sw_flowOfPacket_26 (by decide) (fun h1 => ?_) (fun h1 => ?_)
    · refine mj_blk h.1 b_Sw_flowOfPacket_45 rfl trivial ?_
      refine mj_blk h.1 b_Sw_flowOfPacket_46 rfl trivial ?_
      refine mj_ifeq0 h.1 (tgt := 65) d_Sw_flowOfPacket_48 (by decide) ?_
      refine mj_blk h.1 b_Sw_flowOfPacket_65 rfl trivial ?_
      first | exact mj_aret h rfl d_Sw_flowOfPacket_66 (by decide) (by decide) (Or.inr (Or.inr (Or.inr (Or.inr (Or.inl (⟨hf, fun z => h1 z.1, rfl, rfl⟩)))))) | exact mj_aretN h rfl d_Sw_flowOfPacket_66 (by decide) (by decide) (Or.inr (Or.inr (Or.inr (Or.inr (Or.inl (⟨hf, fun z => h1 z.1, rfl, rfl⟩))))))
    · refine mj_blk h.1 b_Sw_flowOfPacket_29 rfl trivial ?_
      refine mj_callV h zGood (ev_Pk_hasFlag l D cA _ _ _ _ _ _ _ _ _) v_Pk_hasFlag l_Sw_flowOfPacket_35 d_Sw_flowOfPacket_35 rfl ⟨by decide, by decide⟩ ⟨by decide, by decide⟩ [(0, 40)] rfl rfl rfl rfl rfl rfl (Nat.le_of_ble_eq_true rfl) ?_
      rintro _ _ ⟨rfl, rfl⟩
      refine mj_k rfl rfl ?_
      first | refine mj_ifneB h.1 (tgt := 45) d_Sw_flowOfPacket_38 (by decide) (fun h3 => ?_) (fun h3 => ?_) | refine mj_ifne h.1 (tgt := 45) d_Sw_flowOfPacket_38 (by decide) (fun h3 => ?_) (fun h3 => ?_)
      · refine mj_blk h.1 b_Sw_flowOfPacket_45 rfl trivial ?_
        refine mj_blk h.1 b_Sw_flowOfPacket_46 rfl trivial ?_
        refine mj_ifeq0 h.1 (tgt := 65) d_Sw_flowOfPacket_48 (by decide) ?_
        refine mj_blk h.1 b_Sw_flowOfPacket_65 rfl trivial ?_
        first | exact mj_aret h rfl d_Sw_flowOfPacket_66 (by decide) (by decide) (Or.inr (Or.inr (Or.inr (Or.inr (Or.inl (⟨hf, fun z => h3 z.2, rfl, rfl⟩)))))) | exact mj_aretN h rfl d_Sw_flowOfPacket_66 (by decide) (by decide) (Or.inr (Or.inr (Or.inr (Or.inr (Or.inl (⟨hf, fun z => h3 z.2, rfl, rfl⟩))))))
      · refine mj_blk h.1 b_Sw_flowOfPacket_41 rfl trivial ?_
        refine mj_blk h.1 b_Sw_flowOfPacket_46 rfl trivial ?_
        refine mj_ifeq1 h.1 (tgt := 65) d_Sw_flowOfPacket_48 (by decide) ?_
        refine mj_blk h.1 b_Sw_flowOfPacket_51 rfl trivial ?_
        refine mj_callV h zGood (ev_Ft_open l D cA _ _ _ _ _ _ _ _ _ _ _ _ _ _ _ _ _ _ _ _ _ _ _) v_Ft_open l_Sw_flowOfPacket_59 d_Sw_flowOfPacket_59 rfl ⟨by decide, by decide⟩ ⟨by decide, by decide⟩ [] rfl rfl rfl rfl rfl rfl (Nat.le_of_ble_eq_true rfl) ?_
        rintro _ _ (⟨hk, rfl, rfl⟩ | ⟨hk, rfl, rfl⟩ | ⟨hk, rfl, rfl⟩ | ⟨hk, rfl, rfl⟩)
        skip
        · skip
          refine mj_k rfl rfl ?_
          refine mj_blk h.1 b_Sw_flowOfPacket_62 rfl trivial ?_
          first | exact mj_aret h rfl d_Sw_flowOfPacket_66 (by decide) (by decide) (Or.inr (Or.inr (Or.inr (Or.inr (Or.inr (Or.inl (⟨hf, ⟨h1, Decidable.not_not.mp h3⟩, hk, rfl, rfl⟩))))))) | exact mj_aretN h rfl d_Sw_flowOfPacket_66 (by decide) (by decide) (Or.inr (Or.inr (Or.inr (Or.inr (Or.inr (Or.inl (⟨hf, ⟨h1, Decidable.not_not.mp h3⟩, hk, rfl, rfl⟩)))))))
        · skip
          refine mj_k rfl rfl ?_
          refine mj_blk h.1 b_Sw_flowOfPacket_62 rfl trivial ?_
          first | exact mj_aret h rfl d_Sw_flowOfPacket_66 (by decide) (by decide) (Or.inr (Or.inr (Or.inr (Or.inr (Or.inr (Or.inr (Or.inl (⟨hf, ⟨h1, Decidable.not_not.mp h3⟩, hk, rfl, rfl⟩)))))))) | exact mj_aretN h rfl d_Sw_flowOfPacket_66 (by decide) (by decide) (Or.inr (Or.inr (Or.inr (Or.inr (Or.inr (Or.inr (Or.inl (⟨hf, ⟨h1, Decidable.not_not.mp h3⟩, hk, rfl, rfl⟩))))))))
        · skip
          refine mj_k rfl rfl ?_
          refine mj_blk h.1 b_Sw_flowOfPacket_62 rfl trivial ?_
          first | exact mj_aret h rfl d_Sw_flowOfPacket_66 (by decide) (by decide) (Or.inr (Or.inr (Or.inr (Or.inr (Or.inr (Or.inr (Or.inr (Or.inl (⟨hf, ⟨h1, Decidable.not_not.mp h3⟩, hk, rfl, rfl⟩))))))))) | exact mj_aretN h rfl d_Sw_flowOfPacket_66 (by decide) (by decide) (Or.inr (Or.inr (Or.inr (Or.inr (Or.inr (Or.inr (Or.inr (Or.inl (⟨hf, ⟨h1, Decidable.not_not.mp h3⟩, hk, rfl, rfl⟩)))))))))
        · skip
          refine mj_k rfl rfl ?_
          refine mj_blk h.1 b_Sw_flowOfPacket_62 rfl trivial ?_
          first | exact mj_aret h rfl d_Sw_flowOfPacket_66 (by decide) (by decide) (Or.inr (Or.inr (Or.inr (Or.inr (Or.inr (Or.inr (Or.inr (Or.inr (⟨hf, ⟨h1, Decidable.not_not.mp h3⟩, hk, rfl, rfl⟩))))))))) | exact mj_aretN h rfl d_Sw_flowOfPacket_66 (by decide) (by decide) (Or.inr (Or.inr (Or.inr (Or.inr (Or.inr (Or.inr (Or.inr (Or.inr (⟨hf, ⟨h1, Decidable.not_not.mp h3⟩, hk, rfl, rfl⟩)))))))))
  · rw [hf]
    refine mj_k rfl rfl ?_
    refine mj_blk h.1 b_Sw_flowOfPacket_11 rfl trivial ?_
    refine mj_ifnull_r h.1 d_Sw_flowOfPacket_13 ?_
    refine mj_blk h.1 b_Sw_flowOfPacket_16 rfl trivial ?_
    first | exact mj_aret h rfl d_Sw_flowOfPacket_17 (by decide) (by decide) (Or.inl (⟨hf, rfl, rfl⟩)) | exact mj_aretN h rfl d_Sw_flowOfPacket_17 (by decide) (by decide) (Or.inl (⟨hf, rfl, rfl⟩))
  · rw [hf]
    refine mj_k rfl rfl ?_
    refine mj_blk h.1 b_Sw_flowOfPacket_11 rfl trivial ?_
    refine mj_ifnull_r h.1 d_Sw_flowOfPacket_13 ?_
    refine mj_blk h.1 b_Sw_flowOfPacket_16 rfl trivial ?_
    first | exact mj_aret h rfl d_Sw_flowOfPacket_17 (by decide) (by decide) (Or.inr (Or.inl (⟨hf, rfl, rfl⟩))) | exact mj_aretN h rfl d_Sw_flowOfPacket_17 (by decide) (by decide) (Or.inr (Or.inl (⟨hf, rfl, rfl⟩)))
  · rw [hf]
    refine mj_k rfl rfl ?_
    refine mj_blk h.1 b_Sw_flowOfPacket_11 rfl trivial ?_
    refine mj_ifnull_r h.1 d_Sw_flowOfPacket_13 ?_
    refine mj_blk h.1 b_Sw_flowOfPacket_16 rfl trivial ?_
    first | exact mj_aret h rfl d_Sw_flowOfPacket_17 (by decide) (by decide) (Or.inr (Or.inr (Or.inl (⟨hf, rfl, rfl⟩)))) | exact mj_aretN h rfl d_Sw_flowOfPacket_17 (by decide) (by decide) (Or.inr (Or.inr (Or.inl (⟨hf, rfl, rfl⟩))))
  · rw [hf]
    refine mj_k rfl rfl ?_
    refine mj_blk h.1 b_Sw_flowOfPacket_11 rfl trivial ?_
    refine mj_ifnull_r h.1 d_Sw_flowOfPacket_13 ?_
    refine mj_blk h.1 b_Sw_flowOfPacket_16 rfl trivial ?_
    first | exact mj_aret h rfl d_Sw_flowOfPacket_17 (by decide) (by decide) (Or.inr (Or.inr (Or.inr (Or.inl (⟨hf, rfl, rfl⟩))))) | exact mj_aretN h rfl d_Sw_flowOfPacket_17 (by decide) (by decide) (Or.inr (Or.inr (Or.inr (Or.inl (⟨hf, rfl, rfl⟩)))))
end SWC
/-- what r bytes of the packet's data, from byte i on, leave held -/
def sHl (nx fn ds : Int32) (n : Nat) (f : Nat → Int32) (stay : Bool) : Nat → Nat → (Nat → Int32) → Int32 → (Nat → Int32) × Int32
  | 0, _, hd, hs => (hd, hs)
  | r + 1, i, hd, hs => sHl nx fn ds n f stay r (i + 1) (sHd hd nx (fn + nI i) (wA n f (ds + nI i)) stay) (sHs hd nx (fn + nI i) hs)
section SWD
variable (l : Launch) (D : va_G) (cA : Nat → ClassId) (st : Bool) (rc : Nat) (fh fp th tp fn ds fg : Int32) (d n : Nat) (f : Nat → Int32) (tx : Nat → Int32) (ts : Nat) (nx rr : Int32) (bg en : Bool)

set_option maxRecDepth 100000 in
set_option maxHeartbeats 4000000 in
theorem lp_Sw_holdData {X : mj_X} {post : mj_R} (hn : n ≤ 100) (hd9 : d < 2 ^ 30) (h : mj_E zG X l D cA m_Sw_holdData 2 80 0 0 (fun _ => True) post) : ∀ (r i : Nat) (hd : Nat → Int32) (hs : Int32), i + r = d → post none [(50, cSw st rc), (40, cPk fh fp th tp fn ds (nI d) fg), (51, cWi 52 n), (52, cIs 100 f), (80, cSm 81 82 ts (sHl nx fn ds n f st r i hd hs).2 nx rr bg en), (81, cIs 80 tx), (82, cIs 32 (sHl nx fn ds n f st r i hd hs).1)] → mj_W zG X 0 0 2 [(2, .int (nI i)), (0, .ref 50), (1, .ref 80)] [] [(50, cSw st rc), (40, cPk fh fp th tp fn ds (nI d) fg), (51, cWi 52 n), (52, cIs 100 f), (80, cSm 81 82 ts hs nx rr bg en), (81, cIs 80 tx), (82, cIs 32 hd)] := by
  intro r
  induction r with
  | zero =>
    intro i hd hs hi hp
    refine mj_blk h.1 b_Sw_holdData_2 rfl trivial ?_
    refine mj_icge h.1 (tgt := 52) d_Sw_holdData_10 (by decide) (fun h1 => ?_) (fun h1 => ?_)
    · exact mj_vret h rfl d_Sw_holdData_52 (by decide) (by decide) hp
    · exact absurd (nI_le (by omega) (by omega)) h1
  | succ r ih =>
    intro i hd hs hi hp
    refine mj_blk h.1 b_Sw_holdData_2 rfl trivial ?_
    refine mj_icge h.1 (tgt := 52) d_Sw_holdData_10 (by decide) (fun h1 => ?_) (fun h1 => ?_)
    · exact absurd ((nI_leI (by omega) (by omega)).mp h1) (by omega)
    · refine mj_blk h.1 b_Sw_holdData_13 rfl trivial ?_
      refine mj_callV h zGood (ev_Wi_at l D cA _ hn _ _) v_Wi_at l_Sw_holdData_36 d_Sw_holdData_36 rfl ⟨by decide, by decide⟩ ⟨by decide, by decide⟩ [(0, 51), (1, 52)] rfl rfl rfl rfl rfl rfl (Nat.le_of_ble_eq_true rfl) ?_
      rintro _ _ ⟨rfl, rfl⟩
      refine mj_k rfl rfl ?_
      refine mj_blk h.1 b_Sw_holdData_39 rfl trivial ?_
      refine mj_callV h zGood (ev_Sm_hold l D cA _ _ _ _ _ _ _ _ _ _ st) v_Sm_hold l_Sw_holdData_43 d_Sw_holdData_43 rfl ⟨by decide, by decide⟩ ⟨by decide, by decide⟩ [(0, 80), (1, 81), (2, 82)] rfl rfl rfl rfl rfl rfl (Nat.le_of_ble_eq_true rfl) ?_
      rintro _ _ ⟨rfl, rfl⟩
      refine mj_k rfl rfl ?_
      refine mj_blk h.1 b_Sw_holdData_46 rfl trivial ?_
      rw [show nI i + 1 = nI (i + 1) from (nI_succ i).symm]
      exact ih (i + 1) _ _ (by omega) hp
set_option maxRecDepth 100000 in
set_option maxHeartbeats 4000000 in
theorem ev_Sw_holdData (hn : n ≤ 100) (hd9 : d < 2 ^ 30) (hd : Nat → Int32) (hs : Int32) : E0_Sw_holdData l D cA [.ref 50, .ref 80] [(50, cSw st rc), (40, cPk fh fp th tp fn ds (nI d) fg), (51, cWi 52 n), (52, cIs 100 f), (80, cSm 81 82 ts hs nx rr bg en), (81, cIs 80 tx), (82, cIs 32 hd)] none [(50, cSw st rc), (40, cPk fh fp th tp fn ds (nI d) fg), (51, cWi 52 n), (52, cIs 100 f), (80, cSm 81 82 ts (sHl nx fn ds n f st d 0 hd hs).2 nx rr bg en), (81, cIs 80 tx), (82, cIs 32 (sHl nx fn ds n f st d 0 hd hs).1)] := by
  refine mj_ev (lv := [(0, .ref 50), (1, .ref 80)]) (by decide +kernel) (Nat.le_of_ble_eq_true rfl) rfl (fun X h => ?_)
  refine mj_blk h.1 b_Sw_holdData_0 rfl trivial ?_
  exact lp_Sw_holdData l D cA st rc fh fp th tp fn ds fg d n f tx ts nx rr bg en hn hd9 h d 0 hd hs (by omega) ⟨rfl, rfl⟩
set_option maxRecDepth 100000 in
set_option maxHeartbeats 4000000 in
theorem ev_Sw_ruleAt (hrc : rc ≤ 6) (rl : List (Option Nat)) (i a : Nat) (hi : i < rc) (ha : rl.getD i none = some a) : E0_Sw_ruleAt l D cA [.ref 50, .int (nI i)] [(50, cSw st rc), (53, cRs rl)] (some (.ref a)) [(50, cSw st rc), (53, cRs rl)] := by
  refine mj_ev (lv := [(0, .ref 50), (1, .int (nI i))]) (by decide +kernel) (Nat.le_of_ble_eq_true rfl) rfl (fun X h => ?_)
  refine mj_blk h.1 b_Sw_ruleAt_0 rfl trivial ?_
  refine mj_iflt h.1 (tgt := 21) d_Sw_ruleAt_1 (by decide) (fun h1 => ?_) (fun h1 => ?_)
  · first | exact absurd h1 (nI_pos (by omega)) | exact absurd h2 (nI_ge hi (by omega))
  · refine mj_blk h.1 b_Sw_ruleAt_4 rfl trivial ?_
    refine mj_icge h.1 (tgt := 21) d_Sw_ruleAt_9 (by decide) (fun h2 => ?_) (fun h2 => ?_)
    · first | exact absurd h1 (nI_pos (by omega)) | exact absurd h2 (nI_ge hi (by omega))
    · refine mj_blk h.1 b_Sw_ruleAt_12 rfl ⟨vp_in_nI (by omega) (by decide), trivial⟩ ?_
      rw [nI_clamp (by omega), ha]
      exact mj_aret h rfl d_Sw_ruleAt_22 (by decide) (by decide) ⟨rfl, rfl⟩
set_option maxRecDepth 100000 in
set_option maxHeartbeats 4000000 in
theorem ev_Sw_ruleAt_no (rl : List (Option Nat)) (k : Int32) (hk : k < 0 ∨ nI rc ≤ k) : E0_Sw_ruleAt l D cA [.ref 50, .int k] [(50, cSw st rc), (53, cRs rl)] (some .null) [(50, cSw st rc), (53, cRs rl)] := by
  refine mj_ev (lv := [(0, .ref 50), (1, .int k)]) (by decide +kernel) (Nat.le_of_ble_eq_true rfl) rfl (fun X h => ?_)
  refine mj_blk h.1 b_Sw_ruleAt_0 rfl trivial ?_
  refine mj_iflt h.1 (tgt := 21) d_Sw_ruleAt_1 (by decide) (fun h1 => ?_) (fun h1 => ?_)
  · refine mj_blk h.1 b_Sw_ruleAt_21 rfl trivial ?_
    first | exact mj_aret h rfl d_Sw_ruleAt_22 (by decide) (by decide) ⟨rfl, rfl⟩ | exact mj_aretN h rfl d_Sw_ruleAt_22 (by decide) (by decide) ⟨rfl, rfl⟩
  · refine mj_blk h.1 b_Sw_ruleAt_4 rfl trivial ?_
    refine mj_icge h.1 (tgt := 21) d_Sw_ruleAt_9 (by decide) (fun h2 => ?_) (fun h2 => ?_)
    · refine mj_blk h.1 b_Sw_ruleAt_21 rfl trivial ?_
      first | exact mj_aret h rfl d_Sw_ruleAt_22 (by decide) (by decide) ⟨rfl, rfl⟩ | exact mj_aretN h rfl d_Sw_ruleAt_22 (by decide) (by decide) ⟨rfl, rfl⟩
    · exact absurd hk (fun z => z.elim h1 h2)
end SWD
