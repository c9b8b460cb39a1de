/-! StreamWatch.receive: the packet's stream at 80, the flow's other one at 83 (by program: wip/whole/src_rcv.py) -/
theorem va_nd_app : ∀ {l m : List Nat}, va_nd l = true → va_nd m = true → (∀ a ∈ l, a ∉ m) → va_nd (l ++ m) = true
  | [], _, _, h2, _ => h2
  | a :: l, m, h1, h2, h3 => by
    have h4 : (decide (a ∉ l) && va_nd l) = true := h1
    rw [Bool.and_eq_true] at h4
    show (decide (a ∉ l ++ m) && va_nd (l ++ m)) = true
    rw [Bool.and_eq_true]
    refine ⟨decide_eq_true fun h5 => ?_, va_nd_app h4.2 h2 (fun b hb => h3 b (List.mem_cons_of_mem _ hb))⟩
    rcases List.mem_append.mp h5 with h6 | h6
    · exact of_decide_eq_true h4.1 h6
    · exact h3 a List.mem_cons_self h6
/-- the rules' cells lie apart from all others -/
def rK (Rw : mj_M) : Prop := va_nd (Rw.map Prod.fst) = true ∧ ∀ q ∈ Rw, q.1 = 53 ∨ 100 ≤ q.1
theorem rK_nd {Rw : mj_M} (h : rK Rw) (w : mj_M) (h1 : va_nd (w.map Prod.fst) = true) (h2 : ∀ a ∈ w.map Prod.fst, a ≠ 53 ∧ a < 100) : va_nd ((mj_wr (mj_ff []) (w ++ Rw)).map Prod.fst) = true := by
  rw [mj_wr0, List.map_append]
  refine va_nd_app h1 h.1 (fun a ha hb => ?_)
  obtain ⟨q, hq, rfl⟩ := List.mem_map.mp hb
  have h3 := h2 _ ha
  rcases h.2 q hq with h4 | h4
  · exact h3.1 h4
  · omega
def gR (wy pt : Nat → Int32) (os : Nat → List oT) (wa spt : Int32) (tx : Nat → Int32) (ts : Nat) (r : Nat) : Bool := decide ((wy r = 2 ∨ wy r = wa) ∧ (pt r = 0 ∨ pt r = spt)) && vHold tx ts (os r)
theorem gR_iff (wy pt : Nat → Int32) (os : Nat → List oT) (wa spt : Int32) (tx : Nat → Int32) (ts : Nat) (r : Nat) : gR wy pt os wa spt tx ts r = true ↔ raG wy pt os wa spt tx ts r := by
  unfold gR raG
  rw [Bool.and_eq_true, decide_eq_true_eq]
abbrev rcT : Type := (Nat → Int32) × (Nat → Int32) × Nat × Int32 × Int32 × raT
def rcS (G : (Nat → Int32) → Nat → Nat → Bool) (cpt wa : Int32) (rc : Nat) (s : rcT) : rcT :=
  if 80 ≤ nI s.2.2.1 then (s.1, upd s.2.1 (sPl s.2.2.2.2.1) (-1), s.2.2.1, s.2.2.2.1 - 1, s.2.2.2.2.1 + 1, s.2.2.2.2.2)
  else (upd s.1 s.2.2.1 (s.2.1 (sPl s.2.2.2.2.1)), upd s.2.1 (sPl s.2.2.2.2.1) (-1), s.2.2.1 + 1, s.2.2.2.1 - 1, s.2.2.2.2.1 + 1, raF (G (upd s.1 s.2.2.1 (s.2.1 (sPl s.2.2.2.2.1))) (s.2.2.1 + 1)) cpt wa (s.2.2.1 + 1) rc 0 s.2.2.2.2.2)
def rcL (G : (Nat → Int32) → Nat → Nat → Bool) (cpt wa : Int32) (rc : Nat) : Nat → rcT → rcT
  | 0, s => s
  | k + 1, s => if ¬ s.2.1 (sPl s.2.2.2.2.1) = -1 then rcL G cpt wa rc k (rcS G cpt wa rc s) else s
theorem rcS_ok {G : (Nat → Int32) → Nat → Nat → Bool} {cpt wa : Int32} {rc : Nat} {s : rcT} (h1 : s.2.2.1 ≤ 80) (h2 : s.2.2.2.2.2.2.2.2 ≤ 24) : (rcS G cpt wa rc s).2.2.1 ≤ 80 ∧ (rcS G cpt wa rc s).2.2.2.2.2.2.2.2 ≤ 24 := by
  unfold rcS
  by_cases h : 80 ≤ nI s.2.2.1
  · rw [if_pos h]
    exact ⟨h1, h2⟩
  · rw [if_neg h]
    have h3 : ¬ 80 ≤ s.2.2.1 := fun h4 => h (nI_le (a := 80) h4 (by omega))
    exact ⟨by show s.2.2.1 + 1 ≤ 80; omega, raF_le _ _ _ _ _ _ _ h2⟩
section SWF
variable (l : Launch) (D : va_G) (cA : Nat → ClassId) (st : Bool) (rc : Nat) (fh fp th tp fn ds fg : Int32) (d n : Nat) (f : Nat → Int32) (f1 cpt f3 spt f5 : Int32) (lv : Bool) (tx2 hd2 : Nat → Int32) (ts2 : Nat) (hs2 nx2 rr2 : Int32) (bg2 en2 : Bool) (rl : List (Option Nat)) (wy pt : Nat → Int32) (os : Nat → List oT) (Rw : mj_M)

set_option maxRecDepth 100000 in
set_option maxHeartbeats 8000000 in
theorem rv0_e {X : mj_X} {post : mj_R} (h : mj_E zG X l D cA m_Sw_receive 5 200 0 0 (fun _ => True) post) (i : Int32) (en : Bool) (s : rcT) (hp : (∀ (bm bl : Nat → Int32) (bt : Int32) (fm fl : Nat → Int32) (ft : Int32), post none ([(50, cSw st rc), (40, cPk fh fp th tp fn ds (nI d) fg), (51, cWi 52 n), (52, cIs 100 f), (60, .inr (7, [.ref 61, .ref 62])), (61, cMk 63 64 bt), (63, cBs bm), (64, cIs 81 bl), (62, cMk 65 66 ft), (65, cBs fm), (66, cIs 81 fl), (90, cFl 80 83 f1 cpt f3 spt f5 (if (¬ fg &&& 1 = 0 ∧ s.2.2.2.2.1 = fn + nI d) ∧ en2 = true then false else lv)), (80, cSm 81 82 s.2.2.1 s.2.2.2.1 s.2.2.2.2.1 s.2.2.2.2.2.1 true (if ¬ fg &&& 1 = 0 ∧ s.2.2.2.2.1 = fn + nI d then true else en)), (81, cIs 80 s.1), (82, cIs 32 s.2.1), (70, .inr (0, [.ref 71, .int s.2.2.2.2.2.2.2.1, .int (nI s.2.2.2.2.2.2.2.2 - 1)])), (71, cIs 96 s.2.2.2.2.2.2.1), (83, cSm 84 85 ts2 hs2 nx2 rr2 bg2 en2), (84, cIs 80 tx2), (85, cIs 32 hd2)] ++ Rw))) (bm bl : Nat → Int32) (bt : Int32) (fm fl : Nat → Int32) (ft : Int32) : mj_W zG X 0 0 64 [(4, .int i), (3, .ref 80), (0, .ref 50), (1, .ref 90), (2, .int 0)] [] ([(50, cSw st rc), (40, cPk fh fp th tp fn ds (nI d) fg), (51, cWi 52 n), (52, cIs 100 f), (60, .inr (7, [.ref 61, .ref 62])), (61, cMk 63 64 bt), (63, cBs bm), (64, cIs 81 bl), (62, cMk 65 66 ft), (65, cBs fm), (66, cIs 81 fl), (90, cFl 80 83 f1 cpt f3 spt f5 lv), (80, cSm 81 82 s.2.2.1 s.2.2.2.1 s.2.2.2.2.1 s.2.2.2.2.2.1 true en), (81, cIs 80 s.1), (82, cIs 32 s.2.1), (70, .inr (0, [.ref 71, .int s.2.2.2.2.2.2.2.1, .int (nI s.2.2.2.2.2.2.2.2 - 1)])), (71, cIs 96 s.2.2.2.2.2.2.1), (83, cSm 84 85 ts2 hs2 nx2 rr2 bg2 en2), (84, cIs 80 tx2), (85, cIs 32 hd2)] ++ Rw) := by
  refine mj_blk h.1 b_Sw_receive_64 rfl trivial ?_
  refine mj_callV h zGood (ev_Pk_hasFlag l D cA _ _ _ _ _ _ _ _ _) v_Pk_hasFlag l_Sw_receive_69 d_Sw_receive_69 rfl ⟨by decide, by decide⟩ ⟨by decide, by decide⟩ [(0, 40)] rfl rfl rfl rfl rfl rfl (Nat.le_of_ble_eq_true rfl) ?_
  rintro _ _ ⟨rfl, rfl⟩
  refine mj_k rfl rfl ?_
  first | refine mj_ifeqB h.1 (tgt := 105) d_Sw_receive_72 (by decide) (fun h1 => ?_) (fun h1 => ?_) | refine mj_ifeq h.1 (tgt := 105) d_Sw_receive_72 (by decide) (fun h1 => ?_) (fun h1 => ?_)
  · exact mj_vret h rfl d_Sw_receive_105 (by decide) (by decide) (by
      have hp2 := hp bm bl bt fm fl ft
      rw [if_neg (show ¬ (¬ fg &&& 1 = 0 ∧ s.2.2.2.2.1 = fn + nI d) from fun z => h1 z.1), if_neg (show ¬ ((¬ fg &&& 1 = 0 ∧ s.2.2.2.2.1 = fn + nI d) ∧ en2 = true) from fun z => (fun z => h1 z.1) z.1)] at hp2
      exact hp2)
  · refine mj_blk h.1 b_Sw_receive_75 rfl trivial ?_
    refine mj_callV h zGood (ev_Sm_next l D cA _ _ _ _ _ _ _ _) v_Sm_next l_Sw_receive_76 d_Sw_receive_76 rfl ⟨by decide, by decide⟩ ⟨by decide, by decide⟩ [(0, 80), (1, 81), (2, 82)] rfl rfl rfl rfl rfl rfl (Nat.le_of_ble_eq_true rfl) ?_
    rintro _ _ ⟨rfl, rfl⟩
    refine mj_k rfl rfl ?_
    refine mj_blk h.1 b_Sw_receive_79 rfl trivial ?_
    refine mj_icne h.1 (tgt := 105) d_Sw_receive_94 (by decide) (fun h2 => ?_) (fun h2 => ?_)
    · exact mj_vret h rfl d_Sw_receive_105 (by decide) (by decide) (by
      have hp2 := hp bm bl bt fm fl ft
      rw [if_neg (show ¬ (¬ fg &&& 1 = 0 ∧ s.2.2.2.2.1 = fn + nI d) from fun z => h2 z.2), if_neg (show ¬ ((¬ fg &&& 1 = 0 ∧ s.2.2.2.2.1 = fn + nI d) ∧ en2 = true) from fun z => (fun z => h2 z.2) z.1)] at hp2
      exact hp2)
    · refine mj_blk h.1 b_Sw_receive_97 rfl trivial ?_
      refine mj_callV h zGood (ev_Sm_end l D cA _ _ _ _ _ _ _ _) v_Sm_end l_Sw_receive_98 d_Sw_receive_98 rfl ⟨by decide, by decide⟩ ⟨by decide, by decide⟩ [(0, 80), (1, 81), (2, 82)] rfl rfl rfl rfl rfl rfl (Nat.le_of_ble_eq_true rfl) ?_
      rintro _ _ ⟨rfl, rfl⟩
      refine mj_k rfl rfl ?_
      refine mj_blk h.1 b_Sw_receive_101 rfl trivial ?_
      refine mj_callV h zGood (ev_Fl_freeIfBothEnded l D cA _ _ _ _ _ _ _ _ _ _ _ _ _ _ _ _ _ _ _ _ _ _) v_Fl_freeIfBothEnded l_Sw_receive_102 d_Sw_receive_102 rfl ⟨by decide, by decide⟩ ⟨by decide, by decide⟩ [(0, 90), (1, 80), (3, 81), (4, 82), (2, 83), (5, 84), (6, 85)] rfl rfl rfl rfl rfl rfl (Nat.le_of_ble_eq_true rfl) ?_
      rintro _ _ ⟨rfl, rfl⟩
      refine mj_k rfl rfl ?_
      exact mj_vret h rfl d_Sw_receive_105 (by decide) (by decide) (by
      have hp2 := hp bm bl bt fm fl ft
      rw [if_pos (show ¬ fg &&& 1 = 0 ∧ s.2.2.2.2.1 = fn + nI d from ⟨h1, h2⟩)] at hp2
      have e1 : (if (¬ fg &&& 1 = 0 ∧ s.2.2.2.2.1 = fn + nI d) ∧ en2 = true then false else lv) = (if (true = true) ∧ (en2 = true) then false else lv) := by
        cases en2 <;> simp [h1, h2]
      rw [e1] at hp2
      exact hp2)
set_option maxRecDepth 100000 in
set_option maxHeartbeats 8000000 in
theorem rv0_l {X : mj_X} {post : mj_R} (hrc : rc ≤ 6) (hRK : rK Rw) (hR : ∀ (tx : Nat → Int32) (ts : Nat), ts ≤ 80 → raR rc rl wy pt os tx ts Rw) (h : mj_E zG X l D cA m_Sw_receive 5 200 0 0 (fun _ => True) post) (en : Bool) : ∀ (k i : Nat), i + k = 32 → ∀ s : rcT, s.2.2.1 ≤ 80 → s.2.2.2.2.2.2.2.2 ≤ 24 → (∀ (bm bl : Nat → Int32) (bt : Int32) (fm fl : Nat → Int32) (ft : Int32), post none ([(50, cSw st rc), (40, cPk fh fp th tp fn ds (nI d) fg), (51, cWi 52 n), (52, cIs 100 f), (60, .inr (7, [.ref 61, .ref 62])), (61, cMk 63 64 bt), (63, cBs bm), (64, cIs 81 bl), (62, cMk 65 66 ft), (65, cBs fm), (66, cIs 81 fl), (90, cFl 80 83 f1 cpt f3 spt f5 (if (¬ fg &&& 1 = 0 ∧ (rcL (fun tx ts => gR wy pt os 0 spt tx ts) cpt 0 rc k s).2.2.2.2.1 = fn + nI d) ∧ en2 = true then false else lv)), (80, cSm 81 82 (rcL (fun tx ts => gR wy pt os 0 spt tx ts) cpt 0 rc k s).2.2.1 (rcL (fun tx ts => gR wy pt os 0 spt tx ts) cpt 0 rc k s).2.2.2.1 (rcL (fun tx ts => gR wy pt os 0 spt tx ts) cpt 0 rc k s).2.2.2.2.1 (rcL (fun tx ts => gR wy pt os 0 spt tx ts) cpt 0 rc k s).2.2.2.2.2.1 true (if ¬ fg &&& 1 = 0 ∧ (rcL (fun tx ts => gR wy pt os 0 spt tx ts) cpt 0 rc k s).2.2.2.2.1 = fn + nI d then true else en)), (81, cIs 80 (rcL (fun tx ts => gR wy pt os 0 spt tx ts) cpt 0 rc k s).1), (82, cIs 32 (rcL (fun tx ts => gR wy pt os 0 spt tx ts) cpt 0 rc k s).2.1), (70, .inr (0, [.ref 71, .int (rcL (fun tx ts => gR wy pt os 0 spt tx ts) cpt 0 rc k s).2.2.2.2.2.2.2.1, .int (nI (rcL (fun tx ts => gR wy pt os 0 spt tx ts) cpt 0 rc k s).2.2.2.2.2.2.2.2 - 1)])), (71, cIs 96 (rcL (fun tx ts => gR wy pt os 0 spt tx ts) cpt 0 rc k s).2.2.2.2.2.2.1), (83, cSm 84 85 ts2 hs2 nx2 rr2 bg2 en2), (84, cIs 80 tx2), (85, cIs 32 hd2)] ++ Rw)) → ∀ (bm bl : Nat → Int32) (bt : Int32) (fm fl : Nat → Int32) (ft : Int32), mj_W zG X 0 0 30 [(4, .int (nI i)), (3, .ref 80), (0, .ref 50), (1, .ref 90), (2, .int 0)] [] ([(50, cSw st rc), (40, cPk fh fp th tp fn ds (nI d) fg), (51, cWi 52 n), (52, cIs 100 f), (60, .inr (7, [.ref 61, .ref 62])), (61, cMk 63 64 bt), (63, cBs bm), (64, cIs 81 bl), (62, cMk 65 66 ft), (65, cBs fm), (66, cIs 81 fl), (90, cFl 80 83 f1 cpt f3 spt f5 lv), (80, cSm 81 82 s.2.2.1 s.2.2.2.1 s.2.2.2.2.1 s.2.2.2.2.2.1 true en), (81, cIs 80 s.1), (82, cIs 32 s.2.1), (70, .inr (0, [.ref 71, .int s.2.2.2.2.2.2.2.1, .int (nI s.2.2.2.2.2.2.2.2 - 1)])), (71, cIs 96 s.2.2.2.2.2.2.1), (83, cSm 84 85 ts2 hs2 nx2 rr2 bg2 en2), (84, cIs 80 tx2), (85, cIs 32 hd2)] ++ Rw) := by
  intro k
  induction k with
  | zero =>
    intro i hi s hs8 hs9 hp bm bl bt fm fl ft
    refine mj_blk h.1 b_Sw_receive_30 rfl trivial ?_
    refine mj_icge h.1 (tgt := 64) d_Sw_receive_34 (by decide) (fun h1 => ?_) (fun h1 => ?_)
    · exact rv0_e l D cA st rc fh fp th tp fn ds fg d n f f1 cpt f3 spt f5 lv tx2 hd2 ts2 hs2 nx2 rr2 bg2 en2 Rw h _ en s hp bm bl bt fm fl ft
    · exact absurd (show nI 32 ≤ nI i from nI_le (by omega) (by omega)) h1
  | succ k ih =>
    intro i hi s hs8 hs9 hp bm bl bt fm fl ft
    refine mj_blk h.1 b_Sw_receive_30 rfl trivial ?_
    refine mj_icge h.1 (tgt := 64) d_Sw_receive_34 (by decide) (fun h1 => ?_) (fun h1 => ?_)
    · exact absurd ((nI_leI (a := 32) (by omega) (by omega)).mp h1) (by omega)
    · refine mj_blk h.1 b_Sw_receive_37 rfl trivial ?_
      refine mj_callV h zGood (ev_Sm_isNextHeld l D cA _ _ _ _ _ _ _ _) v_Sm_isNextHeld l_Sw_receive_38 d_Sw_receive_38 rfl ⟨by decide, by decide⟩ ⟨by decide, by decide⟩ [(0, 80), (1, 81), (2, 82)] rfl rfl rfl rfl rfl rfl (Nat.le_of_ble_eq_true rfl) ?_
      rintro _ _ ⟨rfl, rfl⟩
      refine mj_k rfl rfl ?_
      first | refine mj_ifeqB h.1 (tgt := 64) d_Sw_receive_41 (by decide) (fun h2 => ?_) (fun h2 => ?_) | refine mj_ifeq h.1 (tgt := 64) d_Sw_receive_41 (by decide) (fun h2 => ?_) (fun h2 => ?_)
      · have hp2 := hp
        unfold rcL at hp2
        rw [if_neg h2] at hp2
        exact rv0_e l D cA st rc fh fp th tp fn ds fg d n f f1 cpt f3 spt f5 lv tx2 hd2 ts2 hs2 nx2 rr2 bg2 en2 Rw h _ en s hp2 bm bl bt fm fl ft
      · have hne := h2
        by_cases hb : 80 ≤ nI s.2.2.1
        · refine mj_blk h.1 b_Sw_receive_44 rfl trivial ?_
          refine mj_callV h zGood (ev_Sm_takeNext l D cA _ _ _ _ _ _ _ _ hs8) v_Sm_takeNext l_Sw_receive_45 d_Sw_receive_45 rfl ⟨by decide, by decide⟩ ⟨by decide, by decide⟩ [(0, 80), (1, 81), (2, 82)] rfl rfl rfl rfl rfl rfl (Nat.le_of_ble_eq_true rfl) ?_
          rintro _ _ ⟨rfl, rfl⟩
          rw [if_neg (fun z => z hb), if_pos hb, if_pos hb]
          refine mj_k rfl rfl ?_
          refine mj_ifeq0 h.1 (tgt := 58) d_Sw_receive_48 (by decide) ?_
          refine mj_blk h.1 b_Sw_receive_58 rfl trivial ?_
          have hp2 := hp
          unfold rcL at hp2
          rw [if_pos hne] at hp2
          unfold rcS at hp2
          rw [if_pos hb] at hp2
          rw [show nI i + 1 = nI (i + 1) from (nI_succ i).symm]
          exact ih (i + 1) (by omega) (s.1, upd s.2.1 (sPl s.2.2.2.2.1) (-1), s.2.2.1, s.2.2.2.1 - 1, s.2.2.2.2.1 + 1, s.2.2.2.2.2) hs8 hs9 hp2 _ _ _ _ _ _
        · have hlt : ¬ 80 ≤ s.2.2.1 := fun h4 => hb (nI_le (a := 80) h4 (by omega))
          refine mj_blk h.1 b_Sw_receive_44 rfl trivial ?_
          refine mj_callV h zGood (ev_Sm_takeNext l D cA _ _ _ _ _ _ _ _ hs8) v_Sm_takeNext l_Sw_receive_45 d_Sw_receive_45 rfl ⟨by decide, by decide⟩ ⟨by decide, by decide⟩ [(0, 80), (1, 81), (2, 82)] rfl rfl rfl rfl rfl rfl (Nat.le_of_ble_eq_true rfl) ?_
          rintro _ _ ⟨rfl, rfl⟩
          rw [if_pos hb, if_neg hb, if_neg hb]
          refine mj_k rfl rfl ?_
          refine mj_ifeq1 h.1 (tgt := 58) d_Sw_receive_48 (by decide) ?_
          refine mj_blk h.1 b_Sw_receive_51 rfl trivial ?_
          refine mj_callVx (wa := [(50, cSw st rc), (60, .inr (7, [.ref 61, .ref 62])), (61, cMk 63 64 bt), (63, cBs bm), (64, cIs 81 bl), (62, cMk 65 66 ft), (65, cBs fm), (66, cIs 81 fl), (90, cFl 80 83 f1 cpt f3 spt f5 lv), (80, cSm 81 82 (s.2.2.1 + 1) (s.2.2.2.1 - 1) (s.2.2.2.2.1 + 1) s.2.2.2.2.2.1 true en), (81, cIs 80 (upd s.1 s.2.2.1 (s.2.1 (sPl s.2.2.2.2.1)))), (82, cIs 32 (upd s.2.1 (sPl s.2.2.2.2.1) (-1))), (70, .inr (0, [.ref 71, .int s.2.2.2.2.2.2.2.1, .int (nI s.2.2.2.2.2.2.2.2 - 1)])), (71, cIs 96 s.2.2.2.2.2.2.1)]) (wb := Rw) (wf := [(50, cSw st rc), (40, cPk fh fp th tp fn ds (nI d) fg), (51, cWi 52 n), (52, cIs 100 f), (60, .inr (7, [.ref 61, .ref 62])), (61, cMk 63 64 bt), (63, cBs bm), (64, cIs 81 bl), (62, cMk 65 66 ft), (65, cBs fm), (66, cIs 81 fl), (90, cFl 80 83 f1 cpt f3 spt f5 lv), (80, cSm 81 82 (s.2.2.1 + 1) (s.2.2.2.1 - 1) (s.2.2.2.2.1 + 1) s.2.2.2.2.2.1 true en), (81, cIs 80 (upd s.1 s.2.2.1 (s.2.1 (sPl s.2.2.2.2.1)))), (82, cIs 32 (upd s.2.1 (sPl s.2.2.2.2.1) (-1))), (70, .inr (0, [.ref 71, .int s.2.2.2.2.2.2.2.1, .int (nI s.2.2.2.2.2.2.2.2 - 1)])), (71, cIs 96 s.2.2.2.2.2.2.1), (83, cSm 84 85 ts2 hs2 nx2 rr2 bg2 en2), (84, cIs 80 tx2), (85, cIs 32 hd2)]) (Rw := Rw) h zGood (ev_Sw_raiseAlerts l D cA st rc 80 83 f1 cpt f3 spt f5 lv (upd s.1 s.2.2.1 (s.2.1 (sPl s.2.2.2.2.1))) (s.2.2.1 + 1) (upd s.2.1 (sPl s.2.2.2.2.1) (-1)) (s.2.2.2.1 - 1) (s.2.2.2.2.1 + 1) true en 0 rl wy pt os Rw (gR wy pt os 0 spt (upd s.1 s.2.2.1 (s.2.1 (sPl s.2.2.2.2.1))) (s.2.2.1 + 1)) hrc (by omega) (hR _ _ (by omega)) (fun r => gR_iff wy pt os 0 spt _ _ r) s.2.2.2.2.2 hs9 bm bl bt fm fl ft) v_Sw_raiseAlerts l_Sw_receive_55 d_Sw_receive_55 rfl ⟨by decide, by decide⟩ ⟨by decide, by decide⟩ [] rfl rfl rfl (fun q hq => by rw [mj_wr0] at hq; exact hq) (rK_nd hRK _ rfl (by simp)) rfl (Nat.le_of_ble_eq_true rfl) ?_
          rintro _ _ ⟨rfl, bm1, bl1, bt1, fm1, fl1, ft1, rfl⟩
          refine ⟨[(50, cSw st rc), (60, .inr (7, [.ref 61, .ref 62])), (61, cMk 63 64 bt1), (63, cBs bm1), (64, cIs 81 bl1), (62, cMk 65 66 ft1), (65, cBs fm1), (66, cIs 81 fl1), (90, cFl 80 83 f1 cpt f3 spt f5 lv), (80, cSm 81 82 (s.2.2.1 + 1) (s.2.2.2.1 - 1) (s.2.2.2.2.1 + 1) (raF (gR wy pt os 0 spt (upd s.1 s.2.2.1 (s.2.1 (sPl s.2.2.2.2.1))) (s.2.2.1 + 1)) cpt 0 (s.2.2.1 + 1) rc 0 s.2.2.2.2.2).1 true en), (81, cIs 80 (upd s.1 s.2.2.1 (s.2.1 (sPl s.2.2.2.2.1)))), (82, cIs 32 (upd s.2.1 (sPl s.2.2.2.2.1) (-1))), (70, .inr (0, [.ref 71, .int (raF (gR wy pt os 0 spt (upd s.1 s.2.2.1 (s.2.1 (sPl s.2.2.2.2.1))) (s.2.2.1 + 1)) cpt 0 (s.2.2.1 + 1) rc 0 s.2.2.2.2.2).2.2.1, .int (nI (raF (gR wy pt os 0 spt (upd s.1 s.2.2.1 (s.2.1 (sPl s.2.2.2.2.1))) (s.2.2.1 + 1)) cpt 0 (s.2.2.1 + 1) rc 0 s.2.2.2.2.2).2.2.2 - 1)])), (71, cIs 96 (raF (gR wy pt os 0 spt (upd s.1 s.2.2.1 (s.2.1 (sPl s.2.2.2.2.1))) (s.2.2.1 + 1)) cpt 0 (s.2.2.1 + 1) rc 0 s.2.2.2.2.2).2.1)], _, _, rfl, rfl, rfl, ?_⟩
          refine mj_blk h.1 b_Sw_receive_58 rfl trivial ?_
          have hp2 := hp
          unfold rcL at hp2
          rw [if_pos hne] at hp2
          unfold rcS at hp2
          rw [if_neg hb] at hp2
          rw [show nI i + 1 = nI (i + 1) from (nI_succ i).symm]
          exact ih (i + 1) (by omega) _ (by show s.2.2.1 + 1 ≤ 80; omega) (raF_le _ _ _ _ _ _ _ hs9) hp2 _ _ _ _ _ _
set_option maxRecDepth 100000 in
set_option maxHeartbeats 4000000 in
theorem ev_Sw_receive_0 (hrc : rc ≤ 6) (hRK : rK Rw) (hR : ∀ (tx : Nat → Int32) (ts : Nat), ts ≤ 80 → raR rc rl wy pt os tx ts Rw) (hn : n ≤ 100) (hd9 : d < 2 ^ 30) (tx hd : Nat → Int32) (ts : Nat) (hs nx : Int32) (bg en : Bool) (s : raT) (ht : ts ≤ 80) (hs9 : s.2.2.2 ≤ 24) (bm bl : Nat → Int32) (bt : Int32) (fm fl : Nat → Int32) (ft : Int32) : E_Sw_receive l D cA 0 0 [.ref 50, .ref 90, .int 0] ([(50, cSw st rc), (40, cPk fh fp th tp fn ds (nI d) fg), (51, cWi 52 n), (52, cIs 100 f), (60, .inr (7, [.ref 61, .ref 62])), (61, cMk 63 64 bt), (63, cBs bm), (64, cIs 81 bl), (62, cMk 65 66 ft), (65, cBs fm), (66, cIs 81 fl), (90, cFl 80 83 f1 cpt f3 spt f5 lv), (80, cSm 81 82 ts hs nx s.1 bg en), (81, cIs 80 tx), (82, cIs 32 hd), (70, .inr (0, [.ref 71, .int s.2.2.1, .int (nI s.2.2.2 - 1)])), (71, cIs 96 s.2.1), (83, cSm 84 85 ts2 hs2 nx2 rr2 bg2 en2), (84, cIs 80 tx2), (85, cIs 32 hd2)] ++ Rw) (fun _ => True) (fun r1 w1 => r1 = none ∧ ∃ bm1 bl1 bt1 fm1 fl1 ft1, w1 = [(50, cSw st rc), (40, cPk fh fp th tp fn ds (nI d) fg), (51, cWi 52 n), (52, cIs 100 f), (60, .inr (7, [.ref 61, .ref 62])), (61, cMk 63 64 bt1), (63, cBs bm1), (64, cIs 81 bl1), (62, cMk 65 66 ft1), (65, cBs fm1), (66, cIs 81 fl1), (90, cFl 80 83 f1 cpt f3 spt f5 (if (¬ fg &&& 1 = 0 ∧ (rcL (fun tx ts => gR wy pt os 0 spt tx ts) cpt 0 rc 32 (tx, (sHl (if bg then nx else fn) fn ds n f st d 0 hd hs).1, ts, (sHl (if bg then nx else fn) fn ds n f st d 0 hd hs).2, (if bg then nx else fn), (s : raT))).2.2.2.2.1 = fn + nI d) ∧ en2 = true then false else lv)), (80, cSm 81 82 (rcL (fun tx ts => gR wy pt os 0 spt tx ts) cpt 0 rc 32 (tx, (sHl (if bg then nx else fn) fn ds n f st d 0 hd hs).1, ts, (sHl (if bg then nx else fn) fn ds n f st d 0 hd hs).2, (if bg then nx else fn), (s : raT))).2.2.1 (rcL (fun tx ts => gR wy pt os 0 spt tx ts) cpt 0 rc 32 (tx, (sHl (if bg then nx else fn) fn ds n f st d 0 hd hs).1, ts, (sHl (if bg then nx else fn) fn ds n f st d 0 hd hs).2, (if bg then nx else fn), (s : raT))).2.2.2.1 (rcL (fun tx ts => gR wy pt os 0 spt tx ts) cpt 0 rc 32 (tx, (sHl (if bg then nx else fn) fn ds n f st d 0 hd hs).1, ts, (sHl (if bg then nx else fn) fn ds n f st d 0 hd hs).2, (if bg then nx else fn), (s : raT))).2.2.2.2.1 (rcL (fun tx ts => gR wy pt os 0 spt tx ts) cpt 0 rc 32 (tx, (sHl (if bg then nx else fn) fn ds n f st d 0 hd hs).1, ts, (sHl (if bg then nx else fn) fn ds n f st d 0 hd hs).2, (if bg then nx else fn), (s : raT))).2.2.2.2.2.1 true (if ¬ fg &&& 1 = 0 ∧ (rcL (fun tx ts => gR wy pt os 0 spt tx ts) cpt 0 rc 32 (tx, (sHl (if bg then nx else fn) fn ds n f st d 0 hd hs).1, ts, (sHl (if bg then nx else fn) fn ds n f st d 0 hd hs).2, (if bg then nx else fn), (s : raT))).2.2.2.2.1 = fn + nI d then true else en)), (81, cIs 80 (rcL (fun tx ts => gR wy pt os 0 spt tx ts) cpt 0 rc 32 (tx, (sHl (if bg then nx else fn) fn ds n f st d 0 hd hs).1, ts, (sHl (if bg then nx else fn) fn ds n f st d 0 hd hs).2, (if bg then nx else fn), (s : raT))).1), (82, cIs 32 (rcL (fun tx ts => gR wy pt os 0 spt tx ts) cpt 0 rc 32 (tx, (sHl (if bg then nx else fn) fn ds n f st d 0 hd hs).1, ts, (sHl (if bg then nx else fn) fn ds n f st d 0 hd hs).2, (if bg then nx else fn), (s : raT))).2.1), (70, .inr (0, [.ref 71, .int (rcL (fun tx ts => gR wy pt os 0 spt tx ts) cpt 0 rc 32 (tx, (sHl (if bg then nx else fn) fn ds n f st d 0 hd hs).1, ts, (sHl (if bg then nx else fn) fn ds n f st d 0 hd hs).2, (if bg then nx else fn), (s : raT))).2.2.2.2.2.2.2.1, .int (nI (rcL (fun tx ts => gR wy pt os 0 spt tx ts) cpt 0 rc 32 (tx, (sHl (if bg then nx else fn) fn ds n f st d 0 hd hs).1, ts, (sHl (if bg then nx else fn) fn ds n f st d 0 hd hs).2, (if bg then nx else fn), (s : raT))).2.2.2.2.2.2.2.2 - 1)])), (71, cIs 96 (rcL (fun tx ts => gR wy pt os 0 spt tx ts) cpt 0 rc 32 (tx, (sHl (if bg then nx else fn) fn ds n f st d 0 hd hs).1, ts, (sHl (if bg then nx else fn) fn ds n f st d 0 hd hs).2, (if bg then nx else fn), (s : raT))).2.2.2.2.2.2.1), (83, cSm 84 85 ts2 hs2 nx2 rr2 bg2 en2), (84, cIs 80 tx2), (85, cIs 32 hd2)] ++ Rw) := by
  refine mj_ev (lv := [(0, .ref 50), (1, .ref 90), (2, .int 0)]) (by decide +kernel) (Nat.le_of_ble_eq_true rfl) rfl (fun X h => ?_)
  refine mj_blk h.1 b_Sw_receive_0 rfl trivial ?_
  refine mj_callV h zGood (ev_Fl_streamOf l D cA _ _ _ _ _ _ 0) v_Fl_streamOf l_Sw_receive_2 d_Sw_receive_2 rfl ⟨by decide, by decide⟩ ⟨by decide, by decide⟩ [(0, 90), (1, 80), (2, 83)] rfl rfl rfl rfl rfl rfl (Nat.le_of_ble_eq_true rfl) ?_
  rintro _ _ ⟨rfl, rfl⟩
  refine mj_k rfl rfl ?_
  refine mj_blk h.1 b_Sw_receive_5 rfl trivial ?_
  refine mj_ifnonnull_r h.1 d_Sw_receive_7 (tgt := 11) (by decide) ?_
  refine mj_blk h.1 b_Sw_receive_11 rfl trivial ?_
  refine mj_callV h zGood (ev_Sm_begin l D cA _ _ _ _ _ _ _ _ _) v_Sm_begin l_Sw_receive_19 d_Sw_receive_19 rfl ⟨by decide, by decide⟩ ⟨by decide, by decide⟩ [(0, 80), (1, 81), (2, 82)] rfl rfl rfl rfl rfl rfl (Nat.le_of_ble_eq_true rfl) ?_
  rintro _ _ ⟨rfl, rfl⟩
  refine mj_k rfl rfl ?_
  refine mj_blk h.1 b_Sw_receive_22 rfl trivial ?_
  refine mj_callV h zGood (ev_Sw_holdData l D cA st rc fh fp th tp fn ds fg d n f _ _ _ _ _ _ hn hd9 _ _) v_Sw_holdData l_Sw_receive_24 d_Sw_receive_24 rfl ⟨by decide, by decide⟩ ⟨by decide, by decide⟩ [] rfl rfl rfl rfl rfl rfl (Nat.le_of_ble_eq_true rfl) ?_
  rintro _ _ ⟨rfl, rfl⟩
  refine mj_k rfl rfl ?_
  refine mj_blk h.1 b_Sw_receive_27 rfl trivial ?_
  exact rv0_l l D cA st rc fh fp th tp fn ds fg d n f f1 cpt f3 spt f5 lv tx2 hd2 ts2 hs2 nx2 rr2 bg2 en2 rl wy pt os Rw hrc hRK hR h en 32 0 rfl (tx, (sHl (if bg then nx else fn) fn ds n f st d 0 hd hs).1, ts, (sHl (if bg then nx else fn) fn ds n f st d 0 hd hs).2, (if bg then nx else fn), (s : raT)) ht hs9 (fun _ _ _ _ _ _ => ⟨rfl, _, _, _, _, _, _, rfl⟩) bm bl bt fm fl ft
set_option maxRecDepth 100000 in
set_option maxHeartbeats 8000000 in
theorem rv1_e {X : mj_X} {post : mj_R} (h : mj_E zG X l D cA m_Sw_receive 5 200 0 0 (fun _ => True) post) (i : Int32) (en : Bool) (s : rcT) (hp : (∀ (bm bl : Nat → Int32) (bt : Int32) (fm fl : Nat → Int32) (ft : Int32), post none ([(50, cSw st rc), (40, cPk fh fp th tp fn ds (nI d) fg), (51, cWi 52 n), (52, cIs 100 f), (60, .inr (7, [.ref 61, .ref 62])), (61, cMk 63 64 bt), (63, cBs bm), (64, cIs 81 bl), (62, cMk 65 66 ft), (65, cBs fm), (66, cIs 81 fl), (90, cFl 83 80 f1 cpt f3 spt f5 (if (¬ fg &&& 1 = 0 ∧ s.2.2.2.2.1 = fn + nI d) ∧ en2 = true then false else lv)), (80, cSm 81 82 s.2.2.1 s.2.2.2.1 s.2.2.2.2.1 s.2.2.2.2.2.1 true (if ¬ fg &&& 1 = 0 ∧ s.2.2.2.2.1 = fn + nI d then true else en)), (81, cIs 80 s.1), (82, cIs 32 s.2.1), (70, .inr (0, [.ref 71, .int s.2.2.2.2.2.2.2.1, .int (nI s.2.2.2.2.2.2.2.2 - 1)])), (71, cIs 96 s.2.2.2.2.2.2.1), (83, cSm 84 85 ts2 hs2 nx2 rr2 bg2 en2), (84, cIs 80 tx2), (85, cIs 32 hd2)] ++ Rw))) (bm bl : Nat → Int32) (bt : Int32) (fm fl : Nat → Int32) (ft : Int32) : mj_W zG X 0 0 64 [(4, .int i), (3, .ref 80), (0, .ref 50), (1, .ref 90), (2, .int 1)] [] ([(50, cSw st rc), (40, cPk fh fp th tp fn ds (nI d) fg), (51, cWi 52 n), (52, cIs 100 f), (60, .inr (7, [.ref 61, .ref 62])), (61, cMk 63 64 bt), (63, cBs bm), (64, cIs 81 bl), (62, cMk 65 66 ft), (65, cBs fm), (66, cIs 81 fl), (90, cFl 83 80 f1 cpt f3 spt f5 lv), (80, cSm 81 82 s.2.2.1 s.2.2.2.1 s.2.2.2.2.1 s.2.2.2.2.2.1 true en), (81, cIs 80 s.1), (82, cIs 32 s.2.1), (70, .inr (0, [.ref 71, .int s.2.2.2.2.2.2.2.1, .int (nI s.2.2.2.2.2.2.2.2 - 1)])), (71, cIs 96 s.2.2.2.2.2.2.1), (83, cSm 84 85 ts2 hs2 nx2 rr2 bg2 en2), (84, cIs 80 tx2), (85, cIs 32 hd2)] ++ Rw) := by
  refine mj_blk h.1 b_Sw_receive_64 rfl trivial ?_
  refine mj_callV h zGood (ev_Pk_hasFlag l D cA _ _ _ _ _ _ _ _ _) v_Pk_hasFlag l_Sw_receive_69 d_Sw_receive_69 rfl ⟨by decide, by decide⟩ ⟨by decide, by decide⟩ [(0, 40)] rfl rfl rfl rfl rfl rfl (Nat.le_of_ble_eq_true rfl) ?_
  rintro _ _ ⟨rfl, rfl⟩
  refine mj_k rfl rfl ?_
  first | refine mj_ifeqB h.1 (tgt := 105) d_Sw_receive_72 (by decide) (fun h1 => ?_) (fun h1 => ?_) | refine mj_ifeq h.1 (tgt := 105) d_Sw_receive_72 (by decide) (fun h1 => ?_) (fun h1 => ?_)
  · exact mj_vret h rfl d_Sw_receive_105 (by decide) (by decide) (by
      have hp2 := hp bm bl bt fm fl ft
      rw [if_neg (show ¬ (¬ fg &&& 1 = 0 ∧ s.2.2.2.2.1 = fn + nI d) from fun z => h1 z.1), if_neg (show ¬ ((¬ fg &&& 1 = 0 ∧ s.2.2.2.2.1 = fn + nI d) ∧ en2 = true) from fun z => (fun z => h1 z.1) z.1)] at hp2
      exact hp2)
  · refine mj_blk h.1 b_Sw_receive_75 rfl trivial ?_
    refine mj_callV h zGood (ev_Sm_next l D cA _ _ _ _ _ _ _ _) v_Sm_next l_Sw_receive_76 d_Sw_receive_76 rfl ⟨by decide, by decide⟩ ⟨by decide, by decide⟩ [(0, 80), (1, 81), (2, 82)] rfl rfl rfl rfl rfl rfl (Nat.le_of_ble_eq_true rfl) ?_
    rintro _ _ ⟨rfl, rfl⟩
    refine mj_k rfl rfl ?_
    refine mj_blk h.1 b_Sw_receive_79 rfl trivial ?_
    refine mj_icne h.1 (tgt := 105) d_Sw_receive_94 (by decide) (fun h2 => ?_) (fun h2 => ?_)
    · exact mj_vret h rfl d_Sw_receive_105 (by decide) (by decide) (by
      have hp2 := hp bm bl bt fm fl ft
      rw [if_neg (show ¬ (¬ fg &&& 1 = 0 ∧ s.2.2.2.2.1 = fn + nI d) from fun z => h2 z.2), if_neg (show ¬ ((¬ fg &&& 1 = 0 ∧ s.2.2.2.2.1 = fn + nI d) ∧ en2 = true) from fun z => (fun z => h2 z.2) z.1)] at hp2
      exact hp2)
    · refine mj_blk h.1 b_Sw_receive_97 rfl trivial ?_
      refine mj_callV h zGood (ev_Sm_end l D cA _ _ _ _ _ _ _ _) v_Sm_end l_Sw_receive_98 d_Sw_receive_98 rfl ⟨by decide, by decide⟩ ⟨by decide, by decide⟩ [(0, 80), (1, 81), (2, 82)] rfl rfl rfl rfl rfl rfl (Nat.le_of_ble_eq_true rfl) ?_
      rintro _ _ ⟨rfl, rfl⟩
      refine mj_k rfl rfl ?_
      refine mj_blk h.1 b_Sw_receive_101 rfl trivial ?_
      refine mj_callV h zGood (ev_Fl_freeIfBothEnded l D cA _ _ _ _ _ _ _ _ _ _ _ _ _ _ _ _ _ _ _ _ _ _) v_Fl_freeIfBothEnded l_Sw_receive_102 d_Sw_receive_102 rfl ⟨by decide, by decide⟩ ⟨by decide, by decide⟩ [(0, 90), (1, 83), (3, 84), (4, 85), (2, 80), (5, 81), (6, 82)] rfl rfl rfl rfl rfl rfl (Nat.le_of_ble_eq_true rfl) ?_
      rintro _ _ ⟨rfl, rfl⟩
      refine mj_k rfl rfl ?_
      exact mj_vret h rfl d_Sw_receive_105 (by decide) (by decide) (by
      have hp2 := hp bm bl bt fm fl ft
      rw [if_pos (show ¬ fg &&& 1 = 0 ∧ s.2.2.2.2.1 = fn + nI d from ⟨h1, h2⟩)] at hp2
      have e1 : (if (¬ fg &&& 1 = 0 ∧ s.2.2.2.2.1 = fn + nI d) ∧ en2 = true then false else lv) = (if (en2 = true) ∧ (true = true) then false else lv) := by
        cases en2 <;> simp [h1, h2]
      rw [e1] at hp2
      exact hp2)
set_option maxRecDepth 100000 in
set_option maxHeartbeats 8000000 in
theorem rv1_l {X : mj_X} {post : mj_R} (hrc : rc ≤ 6) (hRK : rK Rw) (hR : ∀ (tx : Nat → Int32) (ts : Nat), ts ≤ 80 → raR rc rl wy pt os tx ts Rw) (h : mj_E zG X l D cA m_Sw_receive 5 200 0 0 (fun _ => True) post) (en : Bool) : ∀ (k i : Nat), i + k = 32 → ∀ s : rcT, s.2.2.1 ≤ 80 → s.2.2.2.2.2.2.2.2 ≤ 24 → (∀ (bm bl : Nat → Int32) (bt : Int32) (fm fl : Nat → Int32) (ft : Int32), post none ([(50, cSw st rc), (40, cPk fh fp th tp fn ds (nI d) fg), (51, cWi 52 n), (52, cIs 100 f), (60, .inr (7, [.ref 61, .ref 62])), (61, cMk 63 64 bt), (63, cBs bm), (64, cIs 81 bl), (62, cMk 65 66 ft), (65, cBs fm), (66, cIs 81 fl), (90, cFl 83 80 f1 cpt f3 spt f5 (if (¬ fg &&& 1 = 0 ∧ (rcL (fun tx ts => gR wy pt os 1 spt tx ts) cpt 1 rc k s).2.2.2.2.1 = fn + nI d) ∧ en2 = true then false else lv)), (80, cSm 81 82 (rcL (fun tx ts => gR wy pt os 1 spt tx ts) cpt 1 rc k s).2.2.1 (rcL (fun tx ts => gR wy pt os 1 spt tx ts) cpt 1 rc k s).2.2.2.1 (rcL (fun tx ts => gR wy pt os 1 spt tx ts) cpt 1 rc k s).2.2.2.2.1 (rcL (fun tx ts => gR wy pt os 1 spt tx ts) cpt 1 rc k s).2.2.2.2.2.1 true (if ¬ fg &&& 1 = 0 ∧ (rcL (fun tx ts => gR wy pt os 1 spt tx ts) cpt 1 rc k s).2.2.2.2.1 = fn + nI d then true else en)), (81, cIs 80 (rcL (fun tx ts => gR wy pt os 1 spt tx ts) cpt 1 rc k s).1), (82, cIs 32 (rcL (fun tx ts => gR wy pt os 1 spt tx ts) cpt 1 rc k s).2.1), (70, .inr (0, [.ref 71, .int (rcL (fun tx ts => gR wy pt os 1 spt tx ts) cpt 1 rc k s).2.2.2.2.2.2.2.1, .int (nI (rcL (fun tx ts => gR wy pt os 1 spt tx ts) cpt 1 rc k s).2.2.2.2.2.2.2.2 - 1)])), (71, cIs 96 (rcL (fun tx ts => gR wy pt os 1 spt tx ts) cpt 1 rc k s).2.2.2.2.2.2.1), (83, cSm 84 85 ts2 hs2 nx2 rr2 bg2 en2), (84, cIs 80 tx2), (85, cIs 32 hd2)] ++ Rw)) → ∀ (bm bl : Nat → Int32) (bt : Int32) (fm fl : Nat → Int32) (ft : Int32), mj_W zG X 0 0 30 [(4, .int (nI i)), (3, .ref 80), (0, .ref 50), (1, .ref 90), (2, .int 1)] [] ([(50, cSw st rc), (40, cPk fh fp th tp fn ds (nI d) fg), (51, cWi 52 n), (52, cIs 100 f), (60, .inr (7, [.ref 61, .ref 62])), (61, cMk 63 64 bt), (63, cBs bm), (64, cIs 81 bl), (62, cMk 65 66 ft), (65, cBs fm), (66, cIs 81 fl), (90, cFl 83 80 f1 cpt f3 spt f5 lv), (80, cSm 81 82 s.2.2.1 s.2.2.2.1 s.2.2.2.2.1 s.2.2.2.2.2.1 true en), (81, cIs 80 s.1), (82, cIs 32 s.2.1), (70, .inr (0, [.ref 71, .int s.2.2.2.2.2.2.2.1, .int (nI s.2.2.2.2.2.2.2.2 - 1)])), (71, cIs 96 s.2.2.2.2.2.2.1), (83, cSm 84 85 ts2 hs2 nx2 rr2 bg2 en2), (84, cIs 80 tx2), (85, cIs 32 hd2)] ++ Rw) := by
  intro k
  induction k with
  | zero =>
    intro i hi s hs8 hs9 hp bm bl bt fm fl ft
    refine mj_blk h.1 b_Sw_receive_30 rfl trivial ?_
    refine mj_icge h.1 (tgt := 64) d_Sw_receive_34 (by decide) (fun h1 => ?_) (fun h1 => ?_)
    · exact rv1_e l D cA st rc fh fp th tp fn ds fg d n f f1 cpt f3 spt f5 lv tx2 hd2 ts2 hs2 nx2 rr2 bg2 en2 Rw h _ en s hp bm bl bt fm fl ft
    · exact absurd (show nI 32 ≤ nI i from nI_le (by omega) (by omega)) h1
  | succ k ih =>
    intro i hi s hs8 hs9 hp bm bl bt fm fl ft
    refine mj_blk h.1 b_Sw_receive_30 rfl trivial ?_
    refine mj_icge h.1 (tgt := 64) d_Sw_receive_34 (by decide) (fun h1 => ?_) (fun h1 => ?_)
    · exact absurd ((nI_leI (a := 32) (by omega) (by omega)).mp h1) (by omega)
    · refine mj_blk h.1 b_Sw_receive_37 rfl trivial ?_
      refine mj_callV h zGood (ev_Sm_isNextHeld l D cA _ _ _ _ _ _ _ _) v_Sm_isNextHeld l_Sw_receive_38 d_Sw_receive_38 rfl ⟨by decide, by decide⟩ ⟨by decide, by decide⟩ [(0, 80), (1, 81), (2, 82)] rfl rfl rfl rfl rfl rfl (Nat.le_of_ble_eq_true rfl) ?_
      rintro _ _ ⟨rfl, rfl⟩
      refine mj_k rfl rfl ?_
      first | refine mj_ifeqB h.1 (tgt := 64) d_Sw_receive_41 (by decide) (fun h2 => ?_) (fun h2 => ?_) | refine mj_ifeq h.1 (tgt := 64) d_Sw_receive_41 (by decide) (fun h2 => ?_) (fun h2 => ?_)
      · have hp2 := hp
        unfold rcL at hp2
        rw [if_neg h2] at hp2
        exact rv1_e l D cA st rc fh fp th tp fn ds fg d n f f1 cpt f3 spt f5 lv tx2 hd2 ts2 hs2 nx2 rr2 bg2 en2 Rw h _ en s hp2 bm bl bt fm fl ft
      · have hne := h2
        by_cases hb : 80 ≤ nI s.2.2.1
        · refine mj_blk h.1 b_Sw_receive_44 rfl trivial ?_
          refine mj_callV h zGood (ev_Sm_takeNext l D cA _ _ _ _ _ _ _ _ hs8) v_Sm_takeNext l_Sw_receive_45 d_Sw_receive_45 rfl ⟨by decide, by decide⟩ ⟨by decide, by decide⟩ [(0, 80), (1, 81), (2, 82)] rfl rfl rfl rfl rfl rfl (Nat.le_of_ble_eq_true rfl) ?_
          rintro _ _ ⟨rfl, rfl⟩
          rw [if_neg (fun z => z hb), if_pos hb, if_pos hb]
          refine mj_k rfl rfl ?_
          refine mj_ifeq0 h.1 (tgt := 58) d_Sw_receive_48 (by decide) ?_
          refine mj_blk h.1 b_Sw_receive_58 rfl trivial ?_
          have hp2 := hp
          unfold rcL at hp2
          rw [if_pos hne] at hp2
          unfold rcS at hp2
          rw [if_pos hb] at hp2
          rw [show nI i + 1 = nI (i + 1) from (nI_succ i).symm]
          exact ih (i + 1) (by omega) (s.1, upd s.2.1 (sPl s.2.2.2.2.1) (-1), s.2.2.1, s.2.2.2.1 - 1, s.2.2.2.2.1 + 1, s.2.2.2.2.2) hs8 hs9 hp2 _ _ _ _ _ _
        · have hlt : ¬ 80 ≤ s.2.2.1 := fun h4 => hb (nI_le (a := 80) h4 (by omega))
          refine mj_blk h.1 b_Sw_receive_44 rfl trivial ?_
          refine mj_callV h zGood (ev_Sm_takeNext l D cA _ _ _ _ _ _ _ _ hs8) v_Sm_takeNext l_Sw_receive_45 d_Sw_receive_45 rfl ⟨by decide, by decide⟩ ⟨by decide, by decide⟩ [(0, 80), (1, 81), (2, 82)] rfl rfl rfl rfl rfl rfl (Nat.le_of_ble_eq_true rfl) ?_
          rintro _ _ ⟨rfl, rfl⟩
          rw [if_pos hb, if_neg hb, if_neg hb]
          refine mj_k rfl rfl ?_
          refine mj_ifeq1 h.1 (tgt := 58) d_Sw_receive_48 (by decide) ?_
          refine mj_blk h.1 b_Sw_receive_51 rfl trivial ?_
          refine mj_callVx (wa := [(50, cSw st rc), (60, .inr (7, [.ref 61, .ref 62])), (61, cMk 63 64 bt), (63, cBs bm), (64, cIs 81 bl), (62, cMk 65 66 ft), (65, cBs fm), (66, cIs 81 fl), (90, cFl 83 80 f1 cpt f3 spt f5 lv), (80, cSm 81 82 (s.2.2.1 + 1) (s.2.2.2.1 - 1) (s.2.2.2.2.1 + 1) s.2.2.2.2.2.1 true en), (81, cIs 80 (upd s.1 s.2.2.1 (s.2.1 (sPl s.2.2.2.2.1)))), (82, cIs 32 (upd s.2.1 (sPl s.2.2.2.2.1) (-1))), (70, .inr (0, [.ref 71, .int s.2.2.2.2.2.2.2.1, .int (nI s.2.2.2.2.2.2.2.2 - 1)])), (71, cIs 96 s.2.2.2.2.2.2.1)]) (wb := Rw) (wf := [(50, cSw st rc), (40, cPk fh fp th tp fn ds (nI d) fg), (51, cWi 52 n), (52, cIs 100 f), (60, .inr (7, [.ref 61, .ref 62])), (61, cMk 63 64 bt), (63, cBs bm), (64, cIs 81 bl), (62, cMk 65 66 ft), (65, cBs fm), (66, cIs 81 fl), (90, cFl 83 80 f1 cpt f3 spt f5 lv), (80, cSm 81 82 (s.2.2.1 + 1) (s.2.2.2.1 - 1) (s.2.2.2.2.1 + 1) s.2.2.2.2.2.1 true en), (81, cIs 80 (upd s.1 s.2.2.1 (s.2.1 (sPl s.2.2.2.2.1)))), (82, cIs 32 (upd s.2.1 (sPl s.2.2.2.2.1) (-1))), (70, .inr (0, [.ref 71, .int s.2.2.2.2.2.2.2.1, .int (nI s.2.2.2.2.2.2.2.2 - 1)])), (71, cIs 96 s.2.2.2.2.2.2.1), (83, cSm 84 85 ts2 hs2 nx2 rr2 bg2 en2), (84, cIs 80 tx2), (85, cIs 32 hd2)]) (Rw := Rw) h zGood (ev_Sw_raiseAlerts l D cA st rc 83 80 f1 cpt f3 spt f5 lv (upd s.1 s.2.2.1 (s.2.1 (sPl s.2.2.2.2.1))) (s.2.2.1 + 1) (upd s.2.1 (sPl s.2.2.2.2.1) (-1)) (s.2.2.2.1 - 1) (s.2.2.2.2.1 + 1) true en 1 rl wy pt os Rw (gR wy pt os 1 spt (upd s.1 s.2.2.1 (s.2.1 (sPl s.2.2.2.2.1))) (s.2.2.1 + 1)) hrc (by omega) (hR _ _ (by omega)) (fun r => gR_iff wy pt os 1 spt _ _ r) s.2.2.2.2.2 hs9 bm bl bt fm fl ft) v_Sw_raiseAlerts l_Sw_receive_55 d_Sw_receive_55 rfl ⟨by decide, by decide⟩ ⟨by decide, by decide⟩ [] rfl rfl rfl (fun q hq => by rw [mj_wr0] at hq; exact hq) (rK_nd hRK _ rfl (by simp)) rfl (Nat.le_of_ble_eq_true rfl) ?_
          rintro _ _ ⟨rfl, bm1, bl1, bt1, fm1, fl1, ft1, rfl⟩
          refine ⟨[(50, cSw st rc), (60, .inr (7, [.ref 61, .ref 62])), (61, cMk 63 64 bt1), (63, cBs bm1), (64, cIs 81 bl1), (62, cMk 65 66 ft1), (65, cBs fm1), (66, cIs 81 fl1), (90, cFl 83 80 f1 cpt f3 spt f5 lv), (80, cSm 81 82 (s.2.2.1 + 1) (s.2.2.2.1 - 1) (s.2.2.2.2.1 + 1) (raF (gR wy pt os 1 spt (upd s.1 s.2.2.1 (s.2.1 (sPl s.2.2.2.2.1))) (s.2.2.1 + 1)) cpt 1 (s.2.2.1 + 1) rc 0 s.2.2.2.2.2).1 true en), (81, cIs 80 (upd s.1 s.2.2.1 (s.2.1 (sPl s.2.2.2.2.1)))), (82, cIs 32 (upd s.2.1 (sPl s.2.2.2.2.1) (-1))), (70, .inr (0, [.ref 71, .int (raF (gR wy pt os 1 spt (upd s.1 s.2.2.1 (s.2.1 (sPl s.2.2.2.2.1))) (s.2.2.1 + 1)) cpt 1 (s.2.2.1 + 1) rc 0 s.2.2.2.2.2).2.2.1, .int (nI (raF (gR wy pt os 1 spt (upd s.1 s.2.2.1 (s.2.1 (sPl s.2.2.2.2.1))) (s.2.2.1 + 1)) cpt 1 (s.2.2.1 + 1) rc 0 s.2.2.2.2.2).2.2.2 - 1)])), (71, cIs 96 (raF (gR wy pt os 1 spt (upd s.1 s.2.2.1 (s.2.1 (sPl s.2.2.2.2.1))) (s.2.2.1 + 1)) cpt 1 (s.2.2.1 + 1) rc 0 s.2.2.2.2.2).2.1)], _, _, rfl, rfl, rfl, ?_⟩
          refine mj_blk h.1 b_Sw_receive_58 rfl trivial ?_
          have hp2 := hp
          unfold rcL at hp2
          rw [if_pos hne] at hp2
          unfold rcS at hp2
          rw [if_neg hb] at hp2
          rw [show nI i + 1 = nI (i + 1) from (nI_succ i).symm]
          exact ih (i + 1) (by omega) _ (by show s.2.2.1 + 1 ≤ 80; omega) (raF_le _ _ _ _ _ _ _ hs9) hp2 _ _ _ _ _ _
set_option maxRecDepth 100000 in
set_option maxHeartbeats 4000000 in
theorem ev_Sw_receive_1 (hrc : rc ≤ 6) (hRK : rK Rw) (hR : ∀ (tx : Nat → Int32) (ts : Nat), ts ≤ 80 → raR rc rl wy pt os tx ts Rw) (hn : n ≤ 100) (hd9 : d < 2 ^ 30) (tx hd : Nat → Int32) (ts : Nat) (hs nx : Int32) (bg en : Bool) (s : raT) (ht : ts ≤ 80) (hs9 : s.2.2.2 ≤ 24) (bm bl : Nat → Int32) (bt : Int32) (fm fl : Nat → Int32) (ft : Int32) : E_Sw_receive l D cA 0 0 [.ref 50, .ref 90, .int 1] ([(50, cSw st rc), (40, cPk fh fp th tp fn ds (nI d) fg), (51, cWi 52 n), (52, cIs 100 f), (60, .inr (7, [.ref 61, .ref 62])), (61, cMk 63 64 bt), (63, cBs bm), (64, cIs 81 bl), (62, cMk 65 66 ft), (65, cBs fm), (66, cIs 81 fl), (90, cFl 83 80 f1 cpt f3 spt f5 lv), (80, cSm 81 82 ts hs nx s.1 bg en), (81, cIs 80 tx), (82, cIs 32 hd), (70, .inr (0, [.ref 71, .int s.2.2.1, .int (nI s.2.2.2 - 1)])), (71, cIs 96 s.2.1), (83, cSm 84 85 ts2 hs2 nx2 rr2 bg2 en2), (84, cIs 80 tx2), (85, cIs 32 hd2)] ++ Rw) (fun _ => True) (fun r1 w1 => r1 = none ∧ ∃ bm1 bl1 bt1 fm1 fl1 ft1, w1 = [(50, cSw st rc), (40, cPk fh fp th tp fn ds (nI d) fg), (51, cWi 52 n), (52, cIs 100 f), (60, .inr (7, [.ref 61, .ref 62])), (61, cMk 63 64 bt1), (63, cBs bm1), (64, cIs 81 bl1), (62, cMk 65 66 ft1), (65, cBs fm1), (66, cIs 81 fl1), (90, cFl 83 80 f1 cpt f3 spt f5 (if (¬ fg &&& 1 = 0 ∧ (rcL (fun tx ts => gR wy pt os 1 spt tx ts) cpt 1 rc 32 (tx, (sHl (if bg then nx else fn) fn ds n f st d 0 hd hs).1, ts, (sHl (if bg then nx else fn) fn ds n f st d 0 hd hs).2, (if bg then nx else fn), (s : raT))).2.2.2.2.1 = fn + nI d) ∧ en2 = true then false else lv)), (80, cSm 81 82 (rcL (fun tx ts => gR wy pt os 1 spt tx ts) cpt 1 rc 32 (tx, (sHl (if bg then nx else fn) fn ds n f st d 0 hd hs).1, ts, (sHl (if bg then nx else fn) fn ds n f st d 0 hd hs).2, (if bg then nx else fn), (s : raT))).2.2.1 (rcL (fun tx ts => gR wy pt os 1 spt tx ts) cpt 1 rc 32 (tx, (sHl (if bg then nx else fn) fn ds n f st d 0 hd hs).1, ts, (sHl (if bg then nx else fn) fn ds n f st d 0 hd hs).2, (if bg then nx else fn), (s : raT))).2.2.2.1 (rcL (fun tx ts => gR wy pt os 1 spt tx ts) cpt 1 rc 32 (tx, (sHl (if bg then nx else fn) fn ds n f st d 0 hd hs).1, ts, (sHl (if bg then nx else fn) fn ds n f st d 0 hd hs).2, (if bg then nx else fn), (s : raT))).2.2.2.2.1 (rcL (fun tx ts => gR wy pt os 1 spt tx ts) cpt 1 rc 32 (tx, (sHl (if bg then nx else fn) fn ds n f st d 0 hd hs).1, ts, (sHl (if bg then nx else fn) fn ds n f st d 0 hd hs).2, (if bg then nx else fn), (s : raT))).2.2.2.2.2.1 true (if ¬ fg &&& 1 = 0 ∧ (rcL (fun tx ts => gR wy pt os 1 spt tx ts) cpt 1 rc 32 (tx, (sHl (if bg then nx else fn) fn ds n f st d 0 hd hs).1, ts, (sHl (if bg then nx else fn) fn ds n f st d 0 hd hs).2, (if bg then nx else fn), (s : raT))).2.2.2.2.1 = fn + nI d then true else en)), (81, cIs 80 (rcL (fun tx ts => gR wy pt os 1 spt tx ts) cpt 1 rc 32 (tx, (sHl (if bg then nx else fn) fn ds n f st d 0 hd hs).1, ts, (sHl (if bg then nx else fn) fn ds n f st d 0 hd hs).2, (if bg then nx else fn), (s : raT))).1), (82, cIs 32 (rcL (fun tx ts => gR wy pt os 1 spt tx ts) cpt 1 rc 32 (tx, (sHl (if bg then nx else fn) fn ds n f st d 0 hd hs).1, ts, (sHl (if bg then nx else fn) fn ds n f st d 0 hd hs).2, (if bg then nx else fn), (s : raT))).2.1), (70, .inr (0, [.ref 71, .int (rcL (fun tx ts => gR wy pt os 1 spt tx ts) cpt 1 rc 32 (tx, (sHl (if bg then nx else fn) fn ds n f st d 0 hd hs).1, ts, (sHl (if bg then nx else fn) fn ds n f st d 0 hd hs).2, (if bg then nx else fn), (s : raT))).2.2.2.2.2.2.2.1, .int (nI (rcL (fun tx ts => gR wy pt os 1 spt tx ts) cpt 1 rc 32 (tx, (sHl (if bg then nx else fn) fn ds n f st d 0 hd hs).1, ts, (sHl (if bg then nx else fn) fn ds n f st d 0 hd hs).2, (if bg then nx else fn), (s : raT))).2.2.2.2.2.2.2.2 - 1)])), (71, cIs 96 (rcL (fun tx ts => gR wy pt os 1 spt tx ts) cpt 1 rc 32 (tx, (sHl (if bg then nx else fn) fn ds n f st d 0 hd hs).1, ts, (sHl (if bg then nx else fn) fn ds n f st d 0 hd hs).2, (if bg then nx else fn), (s : raT))).2.2.2.2.2.2.1), (83, cSm 84 85 ts2 hs2 nx2 rr2 bg2 en2), (84, cIs 80 tx2), (85, cIs 32 hd2)] ++ Rw) := by
  refine mj_ev (lv := [(0, .ref 50), (1, .ref 90), (2, .int 1)]) (by decide +kernel) (Nat.le_of_ble_eq_true rfl) rfl (fun X h => ?_)
  refine mj_blk h.1 b_Sw_receive_0 rfl trivial ?_
  refine mj_callV h zGood (ev_Fl_streamOf l D cA _ _ _ _ _ _ 1) v_Fl_streamOf l_Sw_receive_2 d_Sw_receive_2 rfl ⟨by decide, by decide⟩ ⟨by decide, by decide⟩ [(0, 90), (1, 83), (2, 80)] rfl rfl rfl rfl rfl rfl (Nat.le_of_ble_eq_true rfl) ?_
  rintro _ _ ⟨rfl, rfl⟩
  refine mj_k rfl rfl ?_
  refine mj_blk h.1 b_Sw_receive_5 rfl trivial ?_
  refine mj_ifnonnull_r h.1 d_Sw_receive_7 (tgt := 11) (by decide) ?_
  refine mj_blk h.1 b_Sw_receive_11 rfl trivial ?_
  refine mj_callV h zGood (ev_Sm_begin l D cA _ _ _ _ _ _ _ _ _) v_Sm_begin l_Sw_receive_19 d_Sw_receive_19 rfl ⟨by decide, by decide⟩ ⟨by decide, by decide⟩ [(0, 80), (1, 81), (2, 82)] rfl rfl rfl rfl rfl rfl (Nat.le_of_ble_eq_true rfl) ?_
  rintro _ _ ⟨rfl, rfl⟩
  refine mj_k rfl rfl ?_
  refine mj_blk h.1 b_Sw_receive_22 rfl trivial ?_
  refine mj_callV h zGood (ev_Sw_holdData l D cA st rc fh fp th tp fn ds fg d n f _ _ _ _ _ _ hn hd9 _ _) v_Sw_holdData l_Sw_receive_24 d_Sw_receive_24 rfl ⟨by decide, by decide⟩ ⟨by decide, by decide⟩ [] rfl rfl rfl rfl rfl rfl (Nat.le_of_ble_eq_true rfl) ?_
  rintro _ _ ⟨rfl, rfl⟩
  refine mj_k rfl rfl ?_
  refine mj_blk h.1 b_Sw_receive_27 rfl trivial ?_
  exact rv1_l l D cA st rc fh fp th tp fn ds fg d n f f1 cpt f3 spt f5 lv tx2 hd2 ts2 hs2 nx2 rr2 bg2 en2 rl wy pt os Rw hrc hRK hR h en 32 0 rfl (tx, (sHl (if bg then nx else fn) fn ds n f st d 0 hd hs).1, ts, (sHl (if bg then nx else fn) fn ds n f st d 0 hd hs).2, (if bg then nx else fn), (s : raT)) ht hs9 (fun _ _ _ _ _ _ => ⟨rfl, _, _, _, _, _, _, rfl⟩) bm bl bt fm fl ft
end SWF
