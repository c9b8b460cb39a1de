/-! StreamWatch.watch: the whole method (by program: wip/whole/src_watch2.py) -/
/-- the object's world but for the rules -/
abbrev swW (st : Bool) (rc : Nat) (pk : mj_C) (n : Nat) (f : Nat → Int32) (ph : Int32) (ch cp sh sp ha : Nat → Int32) (lv : Nat → Bool) (tx hd : Nat → Nat → Int32) (ts : Nat → Nat) (hs nx rr : Nat → Int32) (bg en : Nat → Bool) (rows : Nat → Int32) (tot : Int32) (a : Nat) (bm bl : Nat → Int32) (bt : Int32) (fm fl : Nat → Int32) (ft : Int32) : mj_M := [(50, cSw st rc), (40, pk), (51, cWi 52 n), (52, cIs 100 f), (0, .inr (2, [.ref 1, .int ph])), (1, .inl (3, 4, .inr (.inr [some 2, some 3, some 4, some 5]))), (2, cFl 6 7 (ch 0) (cp 0) (sh 0) (sp 0) (ha 0) (lv 0)), (3, cFl 8 9 (ch 1) (cp 1) (sh 1) (sp 1) (ha 1) (lv 1)), (4, cFl 10 11 (ch 2) (cp 2) (sh 2) (sp 2) (ha 2) (lv 2)), (5, cFl 12 13 (ch 3) (cp 3) (sh 3) (sp 3) (ha 3) (lv 3)), (6, cSm 14 15 (ts 0) (hs 0) (nx 0) (rr 0) (bg 0) (en 0)), (14, cIs 80 (tx 0)), (15, cIs 32 (hd 0)), (7, cSm 16 17 (ts 1) (hs 1) (nx 1) (rr 1) (bg 1) (en 1)), (16, cIs 80 (tx 1)), (17, cIs 32 (hd 1)), (8, cSm 18 19 (ts 2) (hs 2) (nx 2) (rr 2) (bg 2) (en 2)), (18, cIs 80 (tx 2)), (19, cIs 32 (hd 2)), (9, cSm 20 21 (ts 3) (hs 3) (nx 3) (rr 3) (bg 3) (en 3)), (20, cIs 80 (tx 3)), (21, cIs 32 (hd 3)), (10, cSm 22 23 (ts 4) (hs 4) (nx 4) (rr 4) (bg 4) (en 4)), (22, cIs 80 (tx 4)), (23, cIs 32 (hd 4)), (11, cSm 24 25 (ts 5) (hs 5) (nx 5) (rr 5) (bg 5) (en 5)), (24, cIs 80 (tx 5)), (25, cIs 32 (hd 5)), (12, cSm 26 27 (ts 6) (hs 6) (nx 6) (rr 6) (bg 6) (en 6)), (26, cIs 80 (tx 6)), (27, cIs 32 (hd 6)), (13, cSm 28 29 (ts 7) (hs 7) (nx 7) (rr 7) (bg 7) (en 7)), (28, cIs 80 (tx 7)), (29, cIs 32 (hd 7)), (60, .inr (7, [.ref 61, .ref 62])), (61, cMk 63 64 bt), (63, cBs bm), (64, cIs 81 bl), (62, cMk 65 66 ft), (65, cBs fm), (66, cIs 81 fl), (70, .inr (0, [.ref 71, .int tot, .int (nI a - 1)])), (71, cIs 96 rows)]
def up2 {α : Type} (g : Nat → α) (k : Nat) (v : α) : Nat → α := fun t => if t / 2 = k then v else g t
/-- what a packet of flow j does -/
def wtP (st : Bool) (rc : Nat) (wy pt : Nat → Int32) (os : Nat → List oT) (Rw : mj_M) (fh fp th tp fn ds fg : Int32) (d : Nat) (n : Nat) (f : Nat → Int32) (ph : Int32) (ch cp sh sp ha : Nat → Int32) (lv : Nat → Bool) (tx hd : Nat → Nat → Int32) (ts : Nat → Nat) (hs nx rr : Nat → Int32) (bg en : Nat → Bool) (rows : Nat → Int32) (tot : Int32) (a : Nat) (j : Nat) (r1 : Option Value) (w1 : mj_M) : Prop :=
  (¬ fg &&& 4 = 0 ∧ r1 = some (.int (tot - tot)) ∧ ∃ (k1 k2 k3 k4 k5 k6 k7 k8 : Int32) (bm bl : Nat → Int32) (bt : Int32) (fm fl : Nat → Int32) (ft : Int32), w1 = swW st rc (cPk k1 k2 k3 k4 k5 k6 k7 k8) n f (ph + 1) ch cp sh sp (va_up ha j (ph + 1)) (va_up lv j false) tx hd ts hs nx rr bg en rows tot a bm bl bt fm fl ft ++ Rw) ∨
  (fg &&& 4 = 0 ∧ ∃ y : Nat, y < 2 ∧ fWay (ch j) (cp j) (sh j) (sp j) fh fp th tp = nI y ∧ ∃ S : rcT, S = rcV st rc fn ds d n f (cp j) (sp j) wy pt os (nI y) (tx (2 * j + y)) (hd (2 * j + y)) (ts (2 * j + y)) (hs (2 * j + y)) (nx (2 * j + y)) (bg (2 * j + y)) (rr (2 * j + y), rows, tot, a) ∧ r1 = some (.int (S.2.2.2.2.2.2.2.1 - tot)) ∧
    ∃ (k1 k2 k3 k4 k5 k6 k7 k8 : Int32) (bm bl : Nat → Int32) (bt : Int32) (fm fl : Nat → Int32) (ft : Int32), w1 = swW st rc (cPk k1 k2 k3 k4 k5 k6 k7 k8) n f (ph + 1) ch cp sh sp (va_up ha j (ph + 1)) (va_up lv j (if (¬ fg &&& 1 = 0 ∧ S.2.2.2.2.1 = fn + nI d) ∧ en (2 * j + 1 - y) = true then false else lv j)) (va_up tx (2 * j + y) S.1) (va_up hd (2 * j + y) S.2.1) (va_up ts (2 * j + y) S.2.2.1) (va_up hs (2 * j + y) S.2.2.2.1) (va_up nx (2 * j + y) S.2.2.2.2.1) (va_up rr (2 * j + y) S.2.2.2.2.2.1) (va_up bg (2 * j + y) true) (va_up en (2 * j + y) (if ¬ fg &&& 1 = 0 ∧ S.2.2.2.2.1 = fn + nI d then true else en (2 * j + y))) S.2.2.2.2.2.2.1 S.2.2.2.2.2.2.2.1 S.2.2.2.2.2.2.2.2 bm bl bt fm fl ft ++ Rw)
theorem fOf_is {ch cp sh sp : Nat → Int32} {lv : Nat → Bool} {fh fp th tp : Int32} : ∀ {r i j : Nat}, fOf ch cp sh sp lv fh fp th tp r i = some j → fIs ch cp sh sp lv fh fp th tp j
  | 0, _, _, h => by cases h
  | r + 1, i, j, h => by
    unfold fOf at h
    by_cases h1 : fIs ch cp sh sp lv fh fp th tp i
    · rw [if_pos h1] at h
      have h2 : i = j := Option.some.inj h
      rw [← h2]
      exact h1
    · rw [if_neg h1] at h
      exact fOf_is h
theorem fWay_same (a b c d : Int32) : fWay a b c d a b c d = 0 := if_pos ⟨⟨rfl, rfl⟩, ⟨rfl, rfl⟩⟩
theorem up2_le {ts : Nat → Nat} {k : Nat} (h : ∀ t, ts t ≤ 80) : ∀ t, up2 ts k 0 t ≤ 80 := by
  intro t
  unfold up2
  by_cases h1 : t / 2 = k
  · rw [if_pos h1]
    exact Nat.zero_le _
  · rw [if_neg h1]
    exact h t
section SWI
variable (l : Launch) (D : va_G) (cA : Nat → ClassId) (st : Bool) (rc : Nat) (n : Nat) (f : Nat → Int32) (ph : Int32) (ch cp sh sp ha : Nat → Int32) (lv : Nat → Bool) (tx hd : Nat → Nat → Int32) (ts : Nat → Nat) (hs nx rr : Nat → Int32) (bg en : Nat → Bool) (rows : Nat → Int32) (tot : Int32) (a : Nat) (rl : List (Option Nat)) (wy pt : Nat → Int32) (os : Nat → List oT) (Rw : mj_M)

set_option maxRecDepth 100000 in
set_option maxHeartbeats 4000000 in
theorem ev_Sw_watch_f (hn : n ≤ 100) (q1 q2 q3 q4 q5 q6 q7 q8 : Int32) (bm bl : Nat → Int32) (bt : Int32) (fm fl : Nat → Int32) (ft : Int32) (h0 : ¬ wFault n f True = 0) : E0_Sw_watch l D cA [.ref 50] (swW st rc (cPk q1 q2 q3 q4 q5 q6 q7 q8) n f ph ch cp sh sp ha lv tx hd ts hs nx rr bg en rows tot a bm bl bt fm fl ft ++ Rw) (some (.int (-1 - wFault n f True))) (swW st rc (cPk q1 q2 q3 q4 q5 q6 q7 q8) n f ph ch cp sh sp ha lv tx hd ts hs nx rr bg en rows tot a bm bl bt fm fl ft ++ Rw) := by
  refine mj_ev (lv := [(0, .ref 50)]) (by decide +kernel) (Nat.le_of_ble_eq_true rfl) rfl (fun X h => ?_)
  refine mj_blk h.1 b_Sw_watch_0 rfl trivial ?_
  refine mj_callV h zGood (ev_Wi_fault l D cA n hn f True) v_Wi_fault l_Sw_watch_5 d_Sw_watch_5 rfl ⟨by decide, by decide⟩ ⟨by decide, by decide⟩ [(0, 51), (1, 52)] rfl rfl rfl rfl rfl rfl (Nat.le_of_ble_eq_true rfl) ?_
  rintro _ _ ⟨rfl, rfl⟩
  generalize hx : wFault n f True = x at h0 ⊢
  refine mj_k rfl rfl ?_
  refine mj_blk h.1 b_Sw_watch_8 rfl trivial ?_
  first | refine mj_ifeqB h.1 (tgt := 17) d_Sw_watch_10 (by decide) (fun h1 => ?_) (fun h1 => ?_) | refine mj_ifeq h.1 (tgt := 17) d_Sw_watch_10 (by decide) (fun h1 => ?_) (fun h1 => ?_)
  · exact absurd h1 h0
  · refine mj_blk h.1 b_Sw_watch_13 rfl trivial ?_
    exact mj_iret h rfl d_Sw_watch_16 (by decide) (by decide) ⟨by rw [hx], rfl⟩
set_option maxRecDepth 100000 in
set_option maxHeartbeats 16000000 in
theorem ev_Sw_watch (hrc : rc ≤ 6) (hRK : rK Rw) (hRQ : rQ Rw) (hR : ∀ (tx : Nat → Int32) (ts : Nat), ts ≤ 80 → raR rc rl wy pt os tx ts Rw) (hn : n ≤ 100) (hts : ∀ t, ts t ≤ 80) (ha9 : a ≤ 24) (q1 q2 q3 q4 q5 q6 q7 q8 : Int32) (bm bl : Nat → Int32) (bt : Int32) (fm fl : Nat → Int32) (ft : Int32) (h0 : wFault n f True = 0) (d : Nat) (hd9 : d < 2 ^ 30) (hdz : wPair n f 2 - wDs n f = nI d) : E_Sw_watch l D cA 0 0 [.ref 50] (swW st rc (cPk q1 q2 q3 q4 q5 q6 q7 q8) n f ph ch cp sh sp ha lv tx hd ts hs nx rr bg en rows tot a bm bl bt fm fl ft ++ Rw) (fun _ => True) (fun r1 w1 => (fOf ch cp sh sp lv (wQuad n f 12) (wPair n f (nI (wIpN n f))) (wQuad n f 16) (wPair n f (nI (wIpN n f) + 2)) 4 0 = none ∧ ¬ (¬ (pFg n f) &&& 2 = 0 ∧ (pFg n f) &&& 16 = 0) ∧ r1 = some (.int (-10)) ∧ ∃ (k1 k2 k3 k4 k5 k6 k7 k8 : Int32) (bm bl : Nat → Int32) (bt : Int32) (fm fl : Nat → Int32) (ft : Int32), w1 = swW st rc (cPk k1 k2 k3 k4 k5 k6 k7 k8) n f ph ch cp sh sp ha lv tx hd ts hs nx rr bg en rows tot a bm bl bt fm fl ft ++ Rw) ∨ (∃ j : Nat, j < 4 ∧ fOf ch cp sh sp lv (wQuad n f 12) (wPair n f (nI (wIpN n f))) (wQuad n f 16) (wPair n f (nI (wIpN n f) + 2)) 4 0 = some j ∧ wtP st rc wy pt os Rw (wQuad n f 12) (wPair n f (nI (wIpN n f))) (wQuad n f 16) (wPair n f (nI (wIpN n f) + 2)) (pFn n f) (wDs n f) (pFg n f) d n f ph ch cp sh sp ha lv tx hd ts hs nx rr bg en rows tot a j r1 w1) ∨ (fOf ch cp sh sp lv (wQuad n f 12) (wPair n f (nI (wIpN n f))) (wQuad n f 16) (wPair n f (nI (wIpN n f) + 2)) 4 0 = none ∧ (¬ (pFg n f) &&& 2 = 0 ∧ (pFg n f) &&& 16 = 0) ∧ ∃ k : Nat, k < 4 ∧ fSel lv ha 3 1 0 = k ∧ wtP st rc wy pt os Rw (wQuad n f 12) (wPair n f (nI (wIpN n f))) (wQuad n f 16) (wPair n f (nI (wIpN n f) + 2)) (pFn n f) (wDs n f) (pFg n f) d n f ph (va_up ch k (wQuad n f 12)) (va_up cp k (wPair n f (nI (wIpN n f)))) (va_up sh k (wQuad n f 16)) (va_up sp k (wPair n f (nI (wIpN n f) + 2))) ha (va_up lv k true) tx (fun t => if t / 2 = k then sFill 32 0 (hd t) else hd t) (up2 ts k 0) (up2 hs k 0) (up2 nx k 0) (up2 rr k 0) (up2 bg k false) (up2 en k false) rows tot a k r1 w1)) := by
  refine mj_ev (lv := [(0, .ref 50)]) (by decide +kernel) (Nat.le_of_ble_eq_true rfl) rfl (fun X h => ?_)
  refine mj_blk h.1 b_Sw_watch_0 rfl trivial ?_
  refine mj_callV h zGood (ev_Wi_fault l D cA n hn f True) v_Wi_fault l_Sw_watch_5 d_Sw_watch_5 rfl ⟨by decide, by decide⟩ ⟨by decide, by decide⟩ [(0, 51), (1, 52)] rfl rfl rfl rfl rfl rfl (Nat.le_of_ble_eq_true rfl) ?_
  rintro _ _ ⟨rfl, rfl⟩
  rw [h0]
  refine mj_k rfl rfl ?_
  refine mj_blk h.1 b_Sw_watch_8 rfl trivial ?_
  refine mj_ifeq0 h.1 (tgt := 17) d_Sw_watch_10 (by decide) ?_
  refine mj_blk h.1 b_Sw_watch_17 rfl trivial ?_
  refine mj_callV h zGood (ev_Pk_read l D cA _ _ _ _ _ _ _ _ n hn f) v_Pk_read l_Sw_watch_25 d_Sw_watch_25 rfl ⟨by decide, by decide⟩ ⟨by decide, by decide⟩ [(0, 40), (1, 51), (2, 52)] rfl rfl rfl rfl rfl rfl (Nat.le_of_ble_eq_true rfl) ?_
  rintro _ _ ⟨rfl, rfl⟩
  unfold cPr
  rw [hdz]
  refine mj_k rfl rfl ?_
  refine mj_blk h.1 b_Sw_watch_28 rfl trivial ?_
  refine mj_callV h zGood (ev_Sw_flowOfPacket l D cA st rc ph ch cp sh sp ha lv tx hd ts hs nx rr bg en (wQuad n f 12) (wPair n f (nI (wIpN n f))) (wQuad n f 16) (wPair n f (nI (wIpN n f) + 2)) (pFn n f) (wDs n f) (nI d) (pFg n f)) v_Sw_flowOfPacket l_Sw_watch_29 d_Sw_watch_29 rfl ⟨by decide, by decide⟩ ⟨by decide, by decide⟩ [] rfl rfl rfl rfl rfl rfl (Nat.le_of_ble_eq_true rfl) ?_
  rintro _ _ (⟨hf, rfl, rfl⟩ | ⟨hf, rfl, rfl⟩ | ⟨hf, rfl, rfl⟩ | ⟨hf, rfl, rfl⟩ | ⟨hf, hm, rfl, rfl⟩ | ⟨hf, hm, hk, rfl, rfl⟩ | ⟨hf, hm, hk, rfl, rfl⟩ | ⟨hf, hm, hk, rfl, rfl⟩ | ⟨hf, hm, hk, rfl, rfl⟩)
  · refine mj_k rfl rfl ?_
    refine mj_blk h.1 b_Sw_watch_32 rfl trivial ?_
    refine mj_ifnonnull_r h.1 d_Sw_watch_34 (tgt := 40) (by decide) ?_
    exact wt_0 l D cA st rc (wQuad n f 12) (wPair n f (nI (wIpN n f))) (wQuad n f 16) (wPair n f (nI (wIpN n f) + 2)) (pFn n f) (wDs n f) (pFg n f) d n f ph ch cp sh sp ha lv tx hd ts hs nx rr bg en rows tot a rl wy pt os Rw hrc hRK hRQ hR hn hd9 hts ha9 h 0 ((fWay_or _ _ _ _ _ _ _ _).elim Or.inl (fun z => z.elim Or.inr (fun z2 => absurd z2 (fOf_is hf).2))) (fun z bm bl bt fm fl ft => Or.inr (Or.inl ⟨0, by decide, hf, Or.inl ⟨z, rfl, _, _, _, _, _, _, _, _, bm, bl, bt, fm, fl, ft, rfl⟩⟩)) (fun z z2 bm bl bt fm fl ft => Or.inr (Or.inl ⟨0, by decide, hf, Or.inr ⟨z, 0, by decide, z2, _, rfl, rfl, _, _, _, _, _, _, _, _, bm, bl, bt, fm, fl, ft, rfl⟩⟩)) (fun z z2 bm bl bt fm fl ft => Or.inr (Or.inl ⟨0, by decide, hf, Or.inr ⟨z, 1, by decide, z2, _, rfl, rfl, _, _, _, _, _, _, _, _, bm, bl, bt, fm, fl, ft, rfl⟩⟩)) _ _ _ _ _ _
  · refine mj_k rfl rfl ?_
    refine mj_blk h.1 b_Sw_watch_32 rfl trivial ?_
    refine mj_ifnonnull_r h.1 d_Sw_watch_34 (tgt := 40) (by decide) ?_
    exact wt_1 l D cA st rc (wQuad n f 12) (wPair n f (nI (wIpN n f))) (wQuad n f 16) (wPair n f (nI (wIpN n f) + 2)) (pFn n f) (wDs n f) (pFg n f) d n f ph ch cp sh sp ha lv tx hd ts hs nx rr bg en rows tot a rl wy pt os Rw hrc hRK hRQ hR hn hd9 hts ha9 h 0 ((fWay_or _ _ _ _ _ _ _ _).elim Or.inl (fun z => z.elim Or.inr (fun z2 => absurd z2 (fOf_is hf).2))) (fun z bm bl bt fm fl ft => Or.inr (Or.inl ⟨1, by decide, hf, Or.inl ⟨z, rfl, _, _, _, _, _, _, _, _, bm, bl, bt, fm, fl, ft, rfl⟩⟩)) (fun z z2 bm bl bt fm fl ft => Or.inr (Or.inl ⟨1, by decide, hf, Or.inr ⟨z, 0, by decide, z2, _, rfl, rfl, _, _, _, _, _, _, _, _, bm, bl, bt, fm, fl, ft, rfl⟩⟩)) (fun z z2 bm bl bt fm fl ft => Or.inr (Or.inl ⟨1, by decide, hf, Or.inr ⟨z, 1, by decide, z2, _, rfl, rfl, _, _, _, _, _, _, _, _, bm, bl, bt, fm, fl, ft, rfl⟩⟩)) _ _ _ _ _ _
  · refine mj_k rfl rfl ?_
    refine mj_blk h.1 b_Sw_watch_32 rfl trivial ?_
    refine mj_ifnonnull_r h.1 d_Sw_watch_34 (tgt := 40) (by decide) ?_
    exact wt_2 l D cA st rc (wQuad n f 12) (wPair n f (nI (wIpN n f))) (wQuad n f 16) (wPair n f (nI (wIpN n f) + 2)) (pFn n f) (wDs n f) (pFg n f) d n f ph ch cp sh sp ha lv tx hd ts hs nx rr bg en rows tot a rl wy pt os Rw hrc hRK hRQ hR hn hd9 hts ha9 h 0 ((fWay_or _ _ _ _ _ _ _ _).elim Or.inl (fun z => z.elim Or.inr (fun z2 => absurd z2 (fOf_is hf).2))) (fun z bm bl bt fm fl ft => Or.inr (Or.inl ⟨2, by decide, hf, Or.inl ⟨z, rfl, _, _, _, _, _, _, _, _, bm, bl, bt, fm, fl, ft, rfl⟩⟩)) (fun z z2 bm bl bt fm fl ft => Or.inr (Or.inl ⟨2, by decide, hf, Or.inr ⟨z, 0, by decide, z2, _, rfl, rfl, _, _, _, _, _, _, _, _, bm, bl, bt, fm, fl, ft, rfl⟩⟩)) (fun z z2 bm bl bt fm fl ft => Or.inr (Or.inl ⟨2, by decide, hf, Or.inr ⟨z, 1, by decide, z2, _, rfl, rfl, _, _, _, _, _, _, _, _, bm, bl, bt, fm, fl, ft, rfl⟩⟩)) _ _ _ _ _ _
  · refine mj_k rfl rfl ?_
    refine mj_blk h.1 b_Sw_watch_32 rfl trivial ?_
    refine mj_ifnonnull_r h.1 d_Sw_watch_34 (tgt := 40) (by decide) ?_
    exact wt_3 l D cA st rc (wQuad n f 12) (wPair n f (nI (wIpN n f))) (wQuad n f 16) (wPair n f (nI (wIpN n f) + 2)) (pFn n f) (wDs n f) (pFg n f) d n f ph ch cp sh sp ha lv tx hd ts hs nx rr bg en rows tot a rl wy pt os Rw hrc hRK hRQ hR hn hd9 hts ha9 h 0 ((fWay_or _ _ _ _ _ _ _ _).elim Or.inl (fun z => z.elim Or.inr (fun z2 => absurd z2 (fOf_is hf).2))) (fun z bm bl bt fm fl ft => Or.inr (Or.inl ⟨3, by decide, hf, Or.inl ⟨z, rfl, _, _, _, _, _, _, _, _, bm, bl, bt, fm, fl, ft, rfl⟩⟩)) (fun z z2 bm bl bt fm fl ft => Or.inr (Or.inl ⟨3, by decide, hf, Or.inr ⟨z, 0, by decide, z2, _, rfl, rfl, _, _, _, _, _, _, _, _, bm, bl, bt, fm, fl, ft, rfl⟩⟩)) (fun z z2 bm bl bt fm fl ft => Or.inr (Or.inl ⟨3, by decide, hf, Or.inr ⟨z, 1, by decide, z2, _, rfl, rfl, _, _, _, _, _, _, _, _, bm, bl, bt, fm, fl, ft, rfl⟩⟩)) _ _ _ _ _ _
  · refine mj_k rfl rfl ?_
    refine mj_blk h.1 b_Sw_watch_32 rfl trivial ?_
    refine mj_ifnonnull_n h.1 d_Sw_watch_34 ?_
    refine mj_blk h.1 b_Sw_watch_37 rfl trivial ?_
    exact mj_iret h rfl d_Sw_watch_39 (by decide) (by decide) (Or.inl ⟨hf, hm, rfl, _, _, _, _, _, _, _, _, bm, bl, bt, fm, fl, ft, rfl⟩)
  · refine mj_k rfl rfl ?_
    refine mj_blk h.1 b_Sw_watch_32 rfl trivial ?_
    refine mj_ifnonnull_r h.1 d_Sw_watch_34 (tgt := 40) (by decide) ?_
    exact wt_0 l D cA st rc (wQuad n f 12) (wPair n f (nI (wIpN n f))) (wQuad n f 16) (wPair n f (nI (wIpN n f) + 2)) (pFn n f) (wDs n f) (pFg n f) d n f ph (va_up ch 0 (wQuad n f 12)) (va_up cp 0 (wPair n f (nI (wIpN n f)))) (va_up sh 0 (wQuad n f 16)) (va_up sp 0 (wPair n f (nI (wIpN n f) + 2))) ha (va_up lv 0 true) tx (fun t => if t / 2 = 0 then sFill 32 0 (hd t) else hd t) (up2 ts 0 0) (up2 hs 0 0) (up2 nx 0 0) (up2 rr 0 0) (up2 bg 0 false) (up2 en 0 false) rows tot a rl wy pt os Rw hrc hRK hRQ hR hn hd9 (up2_le hts) ha9 h 0 (Or.inl (fWay_same _ _ _ _)) (fun z bm bl bt fm fl ft => Or.inr (Or.inr ⟨hf, hm, 0, by decide, hk, Or.inl ⟨z, rfl, _, _, _, _, _, _, _, _, bm, bl, bt, fm, fl, ft, rfl⟩⟩)) (fun z z2 bm bl bt fm fl ft => Or.inr (Or.inr ⟨hf, hm, 0, by decide, hk, Or.inr ⟨z, 0, by decide, z2, _, rfl, rfl, _, _, _, _, _, _, _, _, bm, bl, bt, fm, fl, ft, rfl⟩⟩)) (fun z z2 bm bl bt fm fl ft => Or.inr (Or.inr ⟨hf, hm, 0, by decide, hk, Or.inr ⟨z, 1, by decide, z2, _, rfl, rfl, _, _, _, _, _, _, _, _, bm, bl, bt, fm, fl, ft, rfl⟩⟩)) _ _ _ _ _ _
  · refine mj_k rfl rfl ?_
    refine mj_blk h.1 b_Sw_watch_32 rfl trivial ?_
    refine mj_ifnonnull_r h.1 d_Sw_watch_34 (tgt := 40) (by decide) ?_
    exact wt_1 l D cA st rc (wQuad n f 12) (wPair n f (nI (wIpN n f))) (wQuad n f 16) (wPair n f (nI (wIpN n f) + 2)) (pFn n f) (wDs n f) (pFg n f) d n f ph (va_up ch 1 (wQuad n f 12)) (va_up cp 1 (wPair n f (nI (wIpN n f)))) (va_up sh 1 (wQuad n f 16)) (va_up sp 1 (wPair n f (nI (wIpN n f) + 2))) ha (va_up lv 1 true) tx (fun t => if t / 2 = 1 then sFill 32 0 (hd t) else hd t) (up2 ts 1 0) (up2 hs 1 0) (up2 nx 1 0) (up2 rr 1 0) (up2 bg 1 false) (up2 en 1 false) rows tot a rl wy pt os Rw hrc hRK hRQ hR hn hd9 (up2_le hts) ha9 h 0 (Or.inl (fWay_same _ _ _ _)) (fun z bm bl bt fm fl ft => Or.inr (Or.inr ⟨hf, hm, 1, by decide, hk, Or.inl ⟨z, rfl, _, _, _, _, _, _, _, _, bm, bl, bt, fm, fl, ft, rfl⟩⟩)) (fun z z2 bm bl bt fm fl ft => Or.inr (Or.inr ⟨hf, hm, 1, by decide, hk, Or.inr ⟨z, 0, by decide, z2, _, rfl, rfl, _, _, _, _, _, _, _, _, bm, bl, bt, fm, fl, ft, rfl⟩⟩)) (fun z z2 bm bl bt fm fl ft => Or.inr (Or.inr ⟨hf, hm, 1, by decide, hk, Or.inr ⟨z, 1, by decide, z2, _, rfl, rfl, _, _, _, _, _, _, _, _, bm, bl, bt, fm, fl, ft, rfl⟩⟩)) _ _ _ _ _ _
  · refine mj_k rfl rfl ?_
    refine mj_blk h.1 b_Sw_watch_32 rfl trivial ?_
    refine mj_ifnonnull_r h.1 d_Sw_watch_34 (tgt := 40) (by decide) ?_
    exact wt_2 l D cA st rc (wQuad n f 12) (wPair n f (nI (wIpN n f))) (wQuad n f 16) (wPair n f (nI (wIpN n f) + 2)) (pFn n f) (wDs n f) (pFg n f) d n f ph (va_up ch 2 (wQuad n f 12)) (va_up cp 2 (wPair n f (nI (wIpN n f)))) (va_up sh 2 (wQuad n f 16)) (va_up sp 2 (wPair n f (nI (wIpN n f) + 2))) ha (va_up lv 2 true) tx (fun t => if t / 2 = 2 then sFill 32 0 (hd t) else hd t) (up2 ts 2 0) (up2 hs 2 0) (up2 nx 2 0) (up2 rr 2 0) (up2 bg 2 false) (up2 en 2 false) rows tot a rl wy pt os Rw hrc hRK hRQ hR hn hd9 (up2_le hts) ha9 h 0 (Or.inl (fWay_same _ _ _ _)) (fun z bm bl bt fm fl ft => Or.inr (Or.inr ⟨hf, hm, 2, by decide, hk, Or.inl ⟨z, rfl, _, _, _, _, _, _, _, _, bm, bl, bt, fm, fl, ft, rfl⟩⟩)) (fun z z2 bm bl bt fm fl ft => Or.inr (Or.inr ⟨hf, hm, 2, by decide, hk, Or.inr ⟨z, 0, by decide, z2, _, rfl, rfl, _, _, _, _, _, _, _, _, bm, bl, bt, fm, fl, ft, rfl⟩⟩)) (fun z z2 bm bl bt fm fl ft => Or.inr (Or.inr ⟨hf, hm, 2, by decide, hk, Or.inr ⟨z, 1, by decide, z2, _, rfl, rfl, _, _, _, _, _, _, _, _, bm, bl, bt, fm, fl, ft, rfl⟩⟩)) _ _ _ _ _ _
  · refine mj_k rfl rfl ?_
    refine mj_blk h.1 b_Sw_watch_32 rfl trivial ?_
    refine mj_ifnonnull_r h.1 d_Sw_watch_34 (tgt := 40) (by decide) ?_
    exact wt_3 l D cA st rc (wQuad n f 12) (wPair n f (nI (wIpN n f))) (wQuad n f 16) (wPair n f (nI (wIpN n f) + 2)) (pFn n f) (wDs n f) (pFg n f) d n f ph (va_up ch 3 (wQuad n f 12)) (va_up cp 3 (wPair n f (nI (wIpN n f)))) (va_up sh 3 (wQuad n f 16)) (va_up sp 3 (wPair n f (nI (wIpN n f) + 2))) ha (va_up lv 3 true) tx (fun t => if t / 2 = 3 then sFill 32 0 (hd t) else hd t) (up2 ts 3 0) (up2 hs 3 0) (up2 nx 3 0) (up2 rr 3 0) (up2 bg 3 false) (up2 en 3 false) rows tot a rl wy pt os Rw hrc hRK hRQ hR hn hd9 (up2_le hts) ha9 h 0 (Or.inl (fWay_same _ _ _ _)) (fun z bm bl bt fm fl ft => Or.inr (Or.inr ⟨hf, hm, 3, by decide, hk, Or.inl ⟨z, rfl, _, _, _, _, _, _, _, _, bm, bl, bt, fm, fl, ft, rfl⟩⟩)) (fun z z2 bm bl bt fm fl ft => Or.inr (Or.inr ⟨hf, hm, 3, by decide, hk, Or.inr ⟨z, 0, by decide, z2, _, rfl, rfl, _, _, _, _, _, _, _, _, bm, bl, bt, fm, fl, ft, rfl⟩⟩)) (fun z z2 bm bl bt fm fl ft => Or.inr (Or.inr ⟨hf, hm, 3, by decide, hk, Or.inr ⟨z, 1, by decide, z2, _, rfl, rfl, _, _, _, _, _, _, _, _, bm, bl, bt, fm, fl, ft, rfl⟩⟩)) _ _ _ _ _ _
end SWI
