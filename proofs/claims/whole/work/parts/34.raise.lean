/-! StreamWatch.raiseAlerts: the rules lie in a part of the world that isn't looked into, Rw (by program: wip/whole/src_ra.py) -/
/-- a rule's cells: rule r at 100 + 10 r, its array behind it, then its options -/
def rC (r : Nat) (wy pt : Int32) : List oT → mj_M
  | [] => [(100 + 10 * r, cRu (101 + 10 * r) wy pt 0), (101 + 10 * r, cOs [none, none, none])]
  | [t0] => [(100 + 10 * r, cRu (101 + 10 * r) wy pt 1), (101 + 10 * r, cOs [some (102 + 10 * r), none, none]), (102 + 10 * r, cOt t0)]
  | [t0, t1] => [(100 + 10 * r, cRu (101 + 10 * r) wy pt 2), (101 + 10 * r, cOs [some (102 + 10 * r), some (103 + 10 * r), none]), (102 + 10 * r, cOt t0), (103 + 10 * r, cOt t1)]
  | t0 :: t1 :: t2 :: _ => [(100 + 10 * r, cRu (101 + 10 * r) wy pt 3), (101 + 10 * r, cOs [some (102 + 10 * r), some (103 + 10 * r), some (104 + 10 * r)]), (102 + 10 * r, cOt t0), (103 + 10 * r, cOt t1), (104 + 10 * r, cOt t2)]
/-- whether a rule's options hold on a text -/
def vHold (tx : Nat → Int32) (ts : Nat) : List oT → Bool
  | [] => false
  | t :: os => vRun tx ts (t :: os) (kStart (ts + 1) 0 (fun _ => 0)) (kSet (ts + 1) 0 (-1) (kStart (ts + 1) 0 (fun _ => 0)) (fun _ => 0)) (fun _ => 0) (fun _ => 0) true
/-- the search's arrays don't matter (proved elsewhere) -/
def vInd (tx : Nat → Int32) (ts : Nat) (os : List oT) : Prop := ∀ bm bl fm fl : Nat → Int32, ¬ os = [] → vRun tx ts os (kStart (ts + 1) 0 bm) (kSet (ts + 1) 0 (-1) (kStart (ts + 1) 0 bm) bl) fm fl true = vHold tx ts os
def aNx (a : Nat) : Nat := if a = 24 then 0 else a
theorem aNx_ok {a : Nat} (h : a ≤ 24) : aNx a < 24 ∧ (if 24 ≤ nI a - 1 + 1 then 0 else nI a - 1 + 1) = nI (aNx a) := by
  rw [show nI a - 1 + 1 = nI a by rw [Int32.sub_add_cancel]]
  unfold aNx
  by_cases h1 : a = 24
  · subst h1
    exact ⟨by decide, by decide⟩
  · rw [if_neg h1, if_neg (show ¬ (24 : Int32) ≤ nI a from fun h2 => by have := (nI_leI (a := 24) (by decide) (by omega)).mp h2; omega)]
    exact ⟨by omega, rfl⟩
abbrev raT : Type := Int32 × (Nat → Int32) × Int32 × Nat
def raG (wy pt : Nat → Int32) (os : Nat → List oT) (wa spt : Int32) (tx : Nat → Int32) (ts : Nat) (r : Nat) : Prop := ((wy r = 2 ∨ wy r = wa) ∧ (pt r = 0 ∨ pt r = spt)) ∧ vHold tx ts (os r) = true
abbrev raP (r : Nat) (rr : Int32) : Prop := rr &&& (1 <<< (nI r &&& 31)) = 0
def raF (g : Nat → Bool) (cpt wa : Int32) (ts : Nat) : Nat → Nat → raT → raT
  | 0, _, s => s
  | k + 1, r, s => if g r = true ∧ raP r s.1 then raF g cpt wa ts k (r + 1) (s.1 ||| (1 <<< (nI r &&& 31)), aAdd s.2.1 (aNx s.2.2.2) (nI r) cpt wa (nI ts), s.2.2.1 + 1, aNx s.2.2.2 + 1) else raF g cpt wa ts k (r + 1) s
theorem raF_le (g : Nat → Bool) (cpt wa : Int32) (ts : Nat) : ∀ (k r : Nat) (s : raT), s.2.2.2 ≤ 24 → (raF g cpt wa ts k r s).2.2.2 ≤ 24 := by
  intro k
  induction k with
  | zero => exact fun _ _ h => h
  | succ k ih =>
    intro r s h
    unfold raF
    by_cases h1 : g r = true ∧ raP r s.1
    · rw [if_pos h1]
      exact ih _ _ (Nat.succ_le_of_lt (aNx_ok h).1)
    · rw [if_neg h1]
      exact ih _ _ h
/-- what is given of the rules -/
def raR (rc : Nat) (rl : List (Option Nat)) (wy pt : Nat → Int32) (os : Nat → List oT) (tx : Nat → Int32) (ts : Nat) (Rw : mj_M) : Prop := (53, cRs rl) ∈ Rw ∧ ∀ r, r < rc → (∀ q ∈ rC r (wy r) (pt r) (os r), q ∈ Rw) ∧ rl.getD r none = some (100 + 10 * r) ∧ (os r).length ≤ 3 ∧ (∀ t ∈ os r, t.2.2.2.2.1 ≤ 6) ∧ vInd tx ts (os r)
theorem rC_rule {r : Nat} {wy pt : Int32} {os : List oT} {Rw : mj_M} (hl : os.length ≤ 3) (h : ∀ q ∈ rC r wy pt os, q ∈ Rw) : (100 + 10 * r, cRu (101 + 10 * r) wy pt os.length) ∈ Rw := by
  rcases os with _ | ⟨t0, _ | ⟨t1, _ | ⟨t2, _ | ⟨t3, os9⟩⟩⟩⟩
  · exact h _ List.mem_cons_self
  · exact h _ List.mem_cons_self
  · exact h _ List.mem_cons_self
  · exact h _ List.mem_cons_self
  · exact absurd hl (by simp)
section SWE
variable (l : Launch) (D : va_G) (cA : Nat → ClassId) (st : Bool) (rc : Nat) (x y : Nat) (f1 cpt f3 spt f5 : Int32) (lv : Bool) (tx : Nat → Int32) (ts : Nat) (hd : Nat → Int32) (hs nx : Int32) (bg en : Bool) (wa : Int32) (rl : List (Option Nat)) (wy pt : Nat → Int32) (os : Nat → List oT) (Rw : mj_M) (g : Nat → Bool)

set_option maxRecDepth 100000 in
set_option maxHeartbeats 8000000 in
theorem ra_x {X : mj_X} {post : mj_R} (hrc : rc ≤ 6) (h : mj_E zG X l D cA m_Sw_raiseAlerts 4 160 0 0 (fun _ => True) post) (r : Nat) (hk : rc = r) (s : raT) (hp : (∀ (bm bl : Nat → Int32) (bt : Int32) (fm fl : Nat → Int32) (ft : Int32), post none ([(50, cSw st rc), (60, .inr (7, [.ref 61, .ref 62])), (61, cMk 63 64 bt), (63, cBs bm), (64, cIs 81 bl), (62, cMk 65 66 ft), (65, cBs fm), (66, cIs 81 fl), (90, cFl x y f1 cpt f3 spt f5 lv), (80, cSm 81 82 ts hs nx s.1 bg en), (81, cIs 80 tx), (82, cIs 32 hd), (70, .inr (0, [.ref 71, .int s.2.2.1, .int (nI s.2.2.2 - 1)])), (71, cIs 96 s.2.1)] ++ Rw))) (bm bl : Nat → Int32) (bt : Int32) (fm fl : Nat → Int32) (ft : Int32) : mj_W zG X 0 0 3 [(4, .int (nI r)), (0, .ref 50), (1, .ref 90), (2, .ref 80), (3, .int wa)] [] ([(50, cSw st rc), (60, .inr (7, [.ref 61, .ref 62])), (61, cMk 63 64 bt), (63, cBs bm), (64, cIs 81 bl), (62, cMk 65 66 ft), (65, cBs fm), (66, cIs 81 fl), (90, cFl x y f1 cpt f3 spt f5 lv), (80, cSm 81 82 ts hs nx s.1 bg en), (81, cIs 80 tx), (82, cIs 32 hd), (70, .inr (0, [.ref 71, .int s.2.2.1, .int (nI s.2.2.2 - 1)])), (71, cIs 96 s.2.1)] ++ Rw) := by
  refine mj_blk h.1 b_Sw_raiseAlerts_3 rfl trivial ?_
  refine mj_icge h.1 (tgt := 93) d_Sw_raiseAlerts_9 (by decide) (fun h1 => ?_) (fun h1 => ?_)
  · exact mj_vret h rfl d_Sw_raiseAlerts_93 (by decide) (by decide) (hp _ _ _ _ _ _)
  · exact absurd (nI_le (Nat.le_of_eq hk) (by omega)) h1
set_option maxRecDepth 100000 in
set_option maxHeartbeats 8000000 in
theorem ra_5 {X : mj_X} {post : mj_R} (hrc : rc ≤ 6) (ht : ts ≤ 80) (hR : raR rc rl wy pt os tx ts Rw) (hg : ∀ r, g r = true ↔ raG wy pt os wa spt tx ts r) (h : mj_E zG X l D cA m_Sw_raiseAlerts 4 160 0 0 (fun _ => True) post) (k : Nat) (hk : 5 + k = rc) (s : raT) (hs9 : s.2.2.2 ≤ 24) (hp : (∀ (bm bl : Nat → Int32) (bt : Int32) (fm fl : Nat → Int32) (ft : Int32), post none ([(50, cSw st rc), (60, .inr (7, [.ref 61, .ref 62])), (61, cMk 63 64 bt), (63, cBs bm), (64, cIs 81 bl), (62, cMk 65 66 ft), (65, cBs fm), (66, cIs 81 fl), (90, cFl x y f1 cpt f3 spt f5 lv), (80, cSm 81 82 ts hs nx (raF g cpt wa ts k 5 s).1 bg en), (81, cIs 80 tx), (82, cIs 32 hd), (70, .inr (0, [.ref 71, .int (raF g cpt wa ts k 5 s).2.2.1, .int (nI (raF g cpt wa ts k 5 s).2.2.2 - 1)])), (71, cIs 96 (raF g cpt wa ts k 5 s).2.1)] ++ Rw))) (bm bl : Nat → Int32) (bt : Int32) (fm fl : Nat → Int32) (ft : Int32) : mj_W zG X 0 0 3 [(4, .int (nI 5)), (0, .ref 50), (1, .ref 90), (2, .ref 80), (3, .int wa)] [] ([(50, cSw st rc), (60, .inr (7, [.ref 61, .ref 62])), (61, cMk 63 64 bt), (63, cBs bm), (64, cIs 81 bl), (62, cMk 65 66 ft), (65, cBs fm), (66, cIs 81 fl), (90, cFl x y f1 cpt f3 spt f5 lv), (80, cSm 81 82 ts hs nx s.1 bg en), (81, cIs 80 tx), (82, cIs 32 hd), (70, .inr (0, [.ref 71, .int s.2.2.1, .int (nI s.2.2.2 - 1)])), (71, cIs 96 s.2.1)] ++ Rw) := by
  cases k with
  | zero => exact ra_x l D cA st rc x y f1 cpt f3 spt f5 lv tx ts hd hs nx bg en wa Rw hrc h 5 (by omega) s hp bm bl bt fm fl ft
  | succ k =>
    have hlt : 5 < rc := by omega
    obtain ⟨hcells, hget, hlen, hz, hin0⟩ := hR.2 5 hlt
    have hrule : (150, cRu 151 (wy 5) (pt 5) (os 5).length) ∈ Rw := rC_rule hlen hcells
    refine mj_blk h.1 b_Sw_raiseAlerts_3 rfl trivial ?_
    refine mj_icge h.1 (tgt := 93) d_Sw_raiseAlerts_9 (by decide) (fun h1 => absurd ((nI_leI (by omega) (by decide)).mp h1) (by omega)) (fun h1 => ?_)
    refine mj_blk h.1 b_Sw_raiseAlerts_12 rfl trivial ?_
    refine mj_callVx (wa := [(50, cSw st rc)]) (wb := [(53, cRs rl)]) (wf := [(50, cSw st rc), (60, .inr (7, [.ref 61, .ref 62])), (61, cMk 63 64 bt), (63, cBs bm), (64, cIs 81 bl), (62, cMk 65 66 ft), (65, cBs fm), (66, cIs 81 fl), (90, cFl x y f1 cpt f3 spt f5 lv), (80, cSm 81 82 ts hs nx s.1 bg en), (81, cIs 80 tx), (82, cIs 32 hd), (70, .inr (0, [.ref 71, .int s.2.2.1, .int (nI s.2.2.2 - 1)])), (71, cIs 96 s.2.1)]) (Rw := Rw) h zGood (ev_Sw_ruleAt l D cA st rc hrc rl 5 150 hlt hget) v_Sw_ruleAt l_Sw_raiseAlerts_15 d_Sw_raiseAlerts_15 rfl ⟨by decide, by decide⟩ ⟨by decide, by decide⟩ [] rfl rfl rfl (fun q hq => by rw [mj_wr0] at hq; rw [List.mem_singleton.mp hq]; exact hR.1) rfl rfl (Nat.le_of_ble_eq_true rfl) ?_
    rintro _ _ ⟨rfl, rfl⟩
    refine ⟨[(50, cSw st rc)], _, _, rfl, rfl, rfl, ?_⟩
    refine mj_blk h.1 b_Sw_raiseAlerts_18 rfl trivial ?_
    refine mj_ifnull_r h.1 d_Sw_raiseAlerts_22 ?_
    refine mj_blk h.1 b_Sw_raiseAlerts_25 rfl trivial ?_
    refine mj_callVx (wa := []) (wb := [(0, cRu 1 (wy 5) (pt 5) (os 5).length)]) (wf := [(50, cSw st rc), (60, .inr (7, [.ref 61, .ref 62])), (61, cMk 63 64 bt), (63, cBs bm), (64, cIs 81 bl), (62, cMk 65 66 ft), (65, cBs fm), (66, cIs 81 fl), (90, cFl x y f1 cpt f3 spt f5 lv), (80, cSm 81 82 ts hs nx s.1 bg en), (81, cIs 80 tx), (82, cIs 32 hd), (70, .inr (0, [.ref 71, .int s.2.2.1, .int (nI s.2.2.2 - 1)])), (71, cIs 96 s.2.1)]) (Rw := Rw) h zGood (ev_Ru_isFor l D cA (wy 5) (pt 5) (os 5).length wa spt) v_Ru_isFor l_Sw_raiseAlerts_32 d_Sw_raiseAlerts_32 rfl ⟨by decide, by decide⟩ ⟨by decide, by decide⟩ [(0, 150), (1, 151)] rfl rfl rfl (fun q hq => by rw [List.mem_singleton.mp hq]; exact hrule) rfl rfl (Nat.le_of_ble_eq_true rfl) ?_
    rintro _ _ ⟨rfl, rfl⟩
    refine ⟨[], _, _, rfl, rfl, rfl, ?_⟩
    first | refine mj_ifeqB h.1 (tgt := 87) d_Sw_raiseAlerts_35 (by decide) (fun g1 => ?_) (fun g1 => ?_) | refine mj_ifeq h.1 (tgt := 87) d_Sw_raiseAlerts_35 (by decide) (fun g1 => ?_) (fun g1 => ?_)
    · refine mj_blk h.1 b_Sw_raiseAlerts_87 rfl trivial ?_
      refine mj_lpk [0, 2, 3, 4, 5] rfl ?_
      have hp2 := hp
      unfold raF at hp2
      rw [if_neg (show ¬ (g 5 = true ∧ raP 5 s.1) from fun z => g1 ((hg 5).mp z.1).1)] at hp2
      rw [show (nI 5 + 1 : Int32) = nI 6 from rfl]
      have hk0 : k = 0 := by omega
      subst hk0
      exact ra_x l D cA st rc x y f1 cpt f3 spt f5 lv tx ts hd hs nx bg en wa Rw hrc h 6 (by omega) _ hp2 _ _ _ _ _ _
    · refine mj_blk h.1 b_Sw_raiseAlerts_38 rfl trivial ?_
      refine mj_callV h zGood (ev_Sm_hasRaised l D cA _ _ _ _ _ _ _ _ _) v_Sm_hasRaised l_Sw_raiseAlerts_41 d_Sw_raiseAlerts_41 rfl ⟨by decide, by decide⟩ ⟨by decide, by decide⟩ [(0, 80), (1, 81), (2, 82)] rfl rfl rfl rfl rfl rfl (Nat.le_of_ble_eq_true rfl) ?_
      rintro _ _ ⟨rfl, rfl⟩
      refine mj_k rfl rfl ?_
      first | refine mj_ifeqB h.1 (tgt := 50) d_Sw_raiseAlerts_44 (by decide) (fun g2 => ?_) (fun g2 => ?_) | refine mj_ifeq h.1 (tgt := 50) d_Sw_raiseAlerts_44 (by decide) (fun g2 => ?_) (fun g2 => ?_)
      · have h4 := g1
        have h5 : raP 5 s.1 := Decidable.not_not.mp g2
        refine mj_blk h.1 b_Sw_raiseAlerts_50 rfl trivial ?_
        rcases hos : os 5 with _ | ⟨t0, _ | ⟨t1, _ | ⟨t2, _ | ⟨t3, os9⟩⟩⟩⟩
        · rw [hos] at hcells hz hin0
          refine mj_callVx (wa := [(0, cSe), (1, cMk 3 4 bt), (3, cBs bm), (4, cIs 81 bl), (2, cMk 5 6 ft), (5, cBs fm), (6, cIs 81 fl), (8, cSm 9 10 ts hs nx s.1 bg en), (9, cIs 80 tx), (10, cIs 32 hd)]) (wb := [(11, cRu 12 (wy 5) (pt 5) 0), (12, cOs [none, none, none])]) (wf := [(50, cSw st rc), (60, .inr (7, [.ref 61, .ref 62])), (61, cMk 63 64 bt), (63, cBs bm), (64, cIs 81 bl), (62, cMk 65 66 ft), (65, cBs fm), (66, cIs 81 fl), (90, cFl x y f1 cpt f3 spt f5 lv), (80, cSm 81 82 ts hs nx s.1 bg en), (81, cIs 80 tx), (82, cIs 32 hd), (70, .inr (0, [.ref 71, .int s.2.2.1, .int (nI s.2.2.2 - 1)])), (71, cIs 96 s.2.1)]) (Rw := Rw) h zGood (ev_Se_holds_0 l D cA (wy 5) (pt 5) tx ts hd hs nx s.1 bg en ht bm bl bt fm fl ft) v_Se_holds l_Sw_raiseAlerts_57 d_Sw_raiseAlerts_57 rfl ⟨by decide, by decide⟩ ⟨by decide, by decide⟩ [(0, 60), (1, 61), (2, 62), (3, 63), (4, 64), (5, 65), (6, 66), (8, 80), (9, 81), (10, 82), (11, 150), (12, 151), (20, 152), (21, 153), (22, 154)] rfl rfl rfl (fun q hq => hcells q hq) rfl rfl (Nat.le_of_ble_eq_true rfl) ?_
          rintro _ _ ⟨rfl, bm1, bl1, bt1, fm1, fl1, ft1, rfl⟩
          refine ⟨[(0, cSe), (1, cMk 3 4 bt1), (3, cBs bm1), (4, cIs 81 bl1), (2, cMk 5 6 ft1), (5, cBs fm1), (6, cIs 81 fl1), (8, cSm 9 10 ts hs nx s.1 bg en), (9, cIs 80 tx), (10, cIs 32 hd)], _, _, rfl, rfl, rfl, ?_⟩
          refine mj_ifeq0 h.1 (tgt := 87) d_Sw_raiseAlerts_60 (by decide) ?_
          have hno : ¬ (g 5 = true ∧ raP 5 s.1) := fun z => by
            have h8 := ((hg 5).mp z.1).2
            rw [hos] at h8
            cases h8
          refine mj_blk h.1 b_Sw_raiseAlerts_87 rfl trivial ?_
          refine mj_lpk [0, 2, 3, 4, 5] rfl ?_
          have hp2 := hp
          unfold raF at hp2
          rw [if_neg (show ¬ (g 5 = true ∧ raP 5 s.1) from hno)] at hp2
          rw [show (nI 5 + 1 : Int32) = nI 6 from rfl]
          have hk0 : k = 0 := by omega
          subst hk0
          exact ra_x l D cA st rc x y f1 cpt f3 spt f5 lv tx ts hd hs nx bg en wa Rw hrc h 6 (by omega) _ hp2 _ _ _ _ _ _
        · rw [hos] at hcells hz hin0
          have hin := hin0 bm bl fm fl (List.cons_ne_nil _ _)
          refine mj_callVx (wa := [(0, cSe), (1, cMk 3 4 bt), (3, cBs bm), (4, cIs 81 bl), (2, cMk 5 6 ft), (5, cBs fm), (6, cIs 81 fl), (8, cSm 9 10 ts hs nx s.1 bg en), (9, cIs 80 tx), (10, cIs 32 hd)]) (wb := [(11, cRu 12 (wy 5) (pt 5) 1), (12, cOs [some 20, none, none]), (20, cOt t0)]) (wf := [(50, cSw st rc), (60, .inr (7, [.ref 61, .ref 62])), (61, cMk 63 64 bt), (63, cBs bm), (64, cIs 81 bl), (62, cMk 65 66 ft), (65, cBs fm), (66, cIs 81 fl), (90, cFl x y f1 cpt f3 spt f5 lv), (80, cSm 81 82 ts hs nx s.1 bg en), (81, cIs 80 tx), (82, cIs 32 hd), (70, .inr (0, [.ref 71, .int s.2.2.1, .int (nI s.2.2.2 - 1)])), (71, cIs 96 s.2.1)]) (Rw := Rw) h zGood (ev_Se_holds_1 l D cA (wy 5) (pt 5) tx ts hd hs nx s.1 bg en ht t0 (hz t0 (by simp)) bm bl bt fm fl ft) v_Se_holds l_Sw_raiseAlerts_57 d_Sw_raiseAlerts_57 rfl ⟨by decide, by decide⟩ ⟨by decide, by decide⟩ [(0, 60), (1, 61), (2, 62), (3, 63), (4, 64), (5, 65), (6, 66), (8, 80), (9, 81), (10, 82), (11, 150), (12, 151), (20, 152), (21, 153), (22, 154)] rfl rfl rfl (fun q hq => hcells q hq) rfl rfl (Nat.le_of_ble_eq_true rfl) ?_
          rintro _ _ ⟨rfl, bm1, bl1, bt1, fm1, fl1, ft1, rfl⟩
          rw [hin]
          refine ⟨[(0, cSe), (1, cMk 3 4 bt1), (3, cBs bm1), (4, cIs 81 bl1), (2, cMk 5 6 ft1), (5, cBs fm1), (6, cIs 81 fl1), (8, cSm 9 10 ts hs nx s.1 bg en), (9, cIs 80 tx), (10, cIs 32 hd)], _, _, rfl, rfl, rfl, ?_⟩
          refine mj_ifeqB h.1 (tgt := 87) d_Sw_raiseAlerts_60 (by decide) (fun h6 => ?_) (fun h6 => ?_)
          · have hno : ¬ (g 5 = true ∧ raP 5 s.1) := fun z => h6 (by have h8 := ((hg 5).mp z.1).2; rw [hos] at h8; exact h8)
            refine mj_blk h.1 b_Sw_raiseAlerts_87 rfl trivial ?_
            refine mj_lpk [0, 2, 3, 4, 5] rfl ?_
            have hp2 := hp
            unfold raF at hp2
            rw [if_neg (show ¬ (g 5 = true ∧ raP 5 s.1) from hno)] at hp2
            rw [show (nI 5 + 1 : Int32) = nI 6 from rfl]
            have hk0 : k = 0 := by omega
            subst hk0
            exact ra_x l D cA st rc x y f1 cpt f3 spt f5 lv tx ts hd hs nx bg en wa Rw hrc h 6 (by omega) _ hp2 _ _ _ _ _ _
          · have hyes : g 5 = true ∧ raP 5 s.1 := ⟨(hg 5).mpr ⟨h4, by rw [hos]; exact h6⟩, h5⟩
            refine mj_blk h.1 b_Sw_raiseAlerts_63 rfl trivial ?_
            refine mj_callV h zGood (ev_Sm_setRaised l D cA _ _ _ _ _ _ _ _ _) v_Sm_setRaised l_Sw_raiseAlerts_66 d_Sw_raiseAlerts_66 rfl ⟨by decide, by decide⟩ ⟨by decide, by decide⟩ [(0, 80), (1, 81), (2, 82)] rfl rfl rfl rfl rfl rfl (Nat.le_of_ble_eq_true rfl) ?_
            rintro _ _ ⟨rfl, rfl⟩
            refine mj_k rfl rfl ?_
            refine mj_blk h.1 b_Sw_raiseAlerts_69 rfl trivial ?_
            refine mj_callV h zGood (ev_Sm_size l D cA _ _ _ _ _ _ _ _) v_Sm_size l_Sw_raiseAlerts_81 d_Sw_raiseAlerts_81 rfl ⟨by decide, by decide⟩ ⟨by decide, by decide⟩ [(0, 80), (1, 81), (2, 82)] rfl rfl rfl rfl rfl rfl (Nat.le_of_ble_eq_true rfl) ?_
            rintro _ _ ⟨rfl, rfl⟩
            refine mj_k rfl rfl ?_
            refine mj_callV h zGood (ev_Al_add l D cA _ _ _ (aNx s.2.2.2) (aNx_ok hs9).1 (aNx_ok hs9).2 _ _ _ _) v_Al_add l_Sw_raiseAlerts_84 d_Sw_raiseAlerts_84 rfl ⟨by decide, by decide⟩ ⟨by decide, by decide⟩ [(0, 70), (1, 71)] rfl rfl rfl rfl rfl rfl (Nat.le_of_ble_eq_true rfl) ?_
            rintro _ _ ⟨rfl, rfl⟩
            rw [show nI (aNx s.2.2.2) = nI (aNx s.2.2.2 + 1) - 1 from (nI_pred _).symm]
            refine mj_k rfl rfl ?_
            refine mj_blk h.1 b_Sw_raiseAlerts_87 rfl trivial ?_
            refine mj_lpk [0, 2, 3, 4, 5] rfl ?_
            have hp2 := hp
            unfold raF at hp2
            rw [if_pos (show (g 5 = true ∧ raP 5 s.1) from hyes)] at hp2
            rw [show (nI 5 + 1 : Int32) = nI 6 from rfl]
            have hk0 : k = 0 := by omega
            subst hk0
            exact ra_x l D cA st rc x y f1 cpt f3 spt f5 lv tx ts hd hs nx bg en wa Rw hrc h 6 (by omega) _ hp2 _ _ _ _ _ _
        · rw [hos] at hcells hz hin0
          have hin := hin0 bm bl fm fl (List.cons_ne_nil _ _)
          refine mj_callVx (wa := [(0, cSe), (1, cMk 3 4 bt), (3, cBs bm), (4, cIs 81 bl), (2, cMk 5 6 ft), (5, cBs fm), (6, cIs 81 fl), (8, cSm 9 10 ts hs nx s.1 bg en), (9, cIs 80 tx), (10, cIs 32 hd)]) (wb := [(11, cRu 12 (wy 5) (pt 5) 2), (12, cOs [some 20, some 21, none]), (20, cOt t0), (21, cOt t1)]) (wf := [(50, cSw st rc), (60, .inr (7, [.ref 61, .ref 62])), (61, cMk 63 64 bt), (63, cBs bm), (64, cIs 81 bl), (62, cMk 65 66 ft), (65, cBs fm), (66, cIs 81 fl), (90, cFl x y f1 cpt f3 spt f5 lv), (80, cSm 81 82 ts hs nx s.1 bg en), (81, cIs 80 tx), (82, cIs 32 hd), (70, .inr (0, [.ref 71, .int s.2.2.1, .int (nI s.2.2.2 - 1)])), (71, cIs 96 s.2.1)]) (Rw := Rw) h zGood (ev_Se_holds_2 l D cA (wy 5) (pt 5) tx ts hd hs nx s.1 bg en ht t0 (hz t0 (by simp)) t1 (hz t1 (by simp)) bm bl bt fm fl ft) v_Se_holds l_Sw_raiseAlerts_57 d_Sw_raiseAlerts_57 rfl ⟨by decide, by decide⟩ ⟨by decide, by decide⟩ [(0, 60), (1, 61), (2, 62), (3, 63), (4, 64), (5, 65), (6, 66), (8, 80), (9, 81), (10, 82), (11, 150), (12, 151), (20, 152), (21, 153), (22, 154)] rfl rfl rfl (fun q hq => hcells q hq) rfl rfl (Nat.le_of_ble_eq_true rfl) ?_
          rintro _ _ ⟨rfl, bm1, bl1, bt1, fm1, fl1, ft1, rfl⟩
          rw [hin]
          refine ⟨[(0, cSe), (1, cMk 3 4 bt1), (3, cBs bm1), (4, cIs 81 bl1), (2, cMk 5 6 ft1), (5, cBs fm1), (6, cIs 81 fl1), (8, cSm 9 10 ts hs nx s.1 bg en), (9, cIs 80 tx), (10, cIs 32 hd)], _, _, rfl, rfl, rfl, ?_⟩
          refine mj_ifeqB h.1 (tgt := 87) d_Sw_raiseAlerts_60 (by decide) (fun h6 => ?_) (fun h6 => ?_)
          · have hno : ¬ (g 5 = true ∧ raP 5 s.1) := fun z => h6 (by have h8 := ((hg 5).mp z.1).2; rw [hos] at h8; exact h8)
            refine mj_blk h.1 b_Sw_raiseAlerts_87 rfl trivial ?_
            refine mj_lpk [0, 2, 3, 4, 5] rfl ?_
            have hp2 := hp
            unfold raF at hp2
            rw [if_neg (show ¬ (g 5 = true ∧ raP 5 s.1) from hno)] at hp2
            rw [show (nI 5 + 1 : Int32) = nI 6 from rfl]
            have hk0 : k = 0 := by omega
            subst hk0
            exact ra_x l D cA st rc x y f1 cpt f3 spt f5 lv tx ts hd hs nx bg en wa Rw hrc h 6 (by omega) _ hp2 _ _ _ _ _ _
          · have hyes : g 5 = true ∧ raP 5 s.1 := ⟨(hg 5).mpr ⟨h4, by rw [hos]; exact h6⟩, h5⟩
            refine mj_blk h.1 b_Sw_raiseAlerts_63 rfl trivial ?_
            refine mj_callV h zGood (ev_Sm_setRaised l D cA _ _ _ _ _ _ _ _ _) v_Sm_setRaised l_Sw_raiseAlerts_66 d_Sw_raiseAlerts_66 rfl ⟨by decide, by decide⟩ ⟨by decide, by decide⟩ [(0, 80), (1, 81), (2, 82)] rfl rfl rfl rfl rfl rfl (Nat.le_of_ble_eq_true rfl) ?_
            rintro _ _ ⟨rfl, rfl⟩
            refine mj_k rfl rfl ?_
            refine mj_blk h.1 b_Sw_raiseAlerts_69 rfl trivial ?_
            refine mj_callV h zGood (ev_Sm_size l D cA _ _ _ _ _ _ _ _) v_Sm_size l_Sw_raiseAlerts_81 d_Sw_raiseAlerts_81 rfl ⟨by decide, by decide⟩ ⟨by decide, by decide⟩ [(0, 80), (1, 81), (2, 82)] rfl rfl rfl rfl rfl rfl (Nat.le_of_ble_eq_true rfl) ?_
            rintro _ _ ⟨rfl, rfl⟩
            refine mj_k rfl rfl ?_
            refine mj_callV h zGood (ev_Al_add l D cA _ _ _ (aNx s.2.2.2) (aNx_ok hs9).1 (aNx_ok hs9).2 _ _ _ _) v_Al_add l_Sw_raiseAlerts_84 d_Sw_raiseAlerts_84 rfl ⟨by decide, by decide⟩ ⟨by decide, by decide⟩ [(0, 70), (1, 71)] rfl rfl rfl rfl rfl rfl (Nat.le_of_ble_eq_true rfl) ?_
            rintro _ _ ⟨rfl, rfl⟩
            rw [show nI (aNx s.2.2.2) = nI (aNx s.2.2.2 + 1) - 1 from (nI_pred _).symm]
            refine mj_k rfl rfl ?_
            refine mj_blk h.1 b_Sw_raiseAlerts_87 rfl trivial ?_
            refine mj_lpk [0, 2, 3, 4, 5] rfl ?_
            have hp2 := hp
            unfold raF at hp2
            rw [if_pos (show (g 5 = true ∧ raP 5 s.1) from hyes)] at hp2
            rw [show (nI 5 + 1 : Int32) = nI 6 from rfl]
            have hk0 : k = 0 := by omega
            subst hk0
            exact ra_x l D cA st rc x y f1 cpt f3 spt f5 lv tx ts hd hs nx bg en wa Rw hrc h 6 (by omega) _ hp2 _ _ _ _ _ _
        · rw [hos] at hcells hz hin0
          have hin := hin0 bm bl fm fl (List.cons_ne_nil _ _)
          refine mj_callVx (wa := [(0, cSe), (1, cMk 3 4 bt), (3, cBs bm), (4, cIs 81 bl), (2, cMk 5 6 ft), (5, cBs fm), (6, cIs 81 fl), (8, cSm 9 10 ts hs nx s.1 bg en), (9, cIs 80 tx), (10, cIs 32 hd)]) (wb := [(11, cRu 12 (wy 5) (pt 5) 3), (12, cOs [some 20, some 21, some 22]), (20, cOt t0), (21, cOt t1), (22, cOt t2)]) (wf := [(50, cSw st rc), (60, .inr (7, [.ref 61, .ref 62])), (61, cMk 63 64 bt), (63, cBs bm), (64, cIs 81 bl), (62, cMk 65 66 ft), (65, cBs fm), (66, cIs 81 fl), (90, cFl x y f1 cpt f3 spt f5 lv), (80, cSm 81 82 ts hs nx s.1 bg en), (81, cIs 80 tx), (82, cIs 32 hd), (70, .inr (0, [.ref 71, .int s.2.2.1, .int (nI s.2.2.2 - 1)])), (71, cIs 96 s.2.1)]) (Rw := Rw) h zGood (ev_Se_holds_3 l D cA (wy 5) (pt 5) tx ts hd hs nx s.1 bg en ht t0 (hz t0 (by simp)) t1 (hz t1 (by simp)) t2 (hz t2 (by simp)) bm bl bt fm fl ft) v_Se_holds l_Sw_raiseAlerts_57 d_Sw_raiseAlerts_57 rfl ⟨by decide, by decide⟩ ⟨by decide, by decide⟩ [(0, 60), (1, 61), (2, 62), (3, 63), (4, 64), (5, 65), (6, 66), (8, 80), (9, 81), (10, 82), (11, 150), (12, 151), (20, 152), (21, 153), (22, 154)] rfl rfl rfl (fun q hq => hcells q hq) rfl rfl (Nat.le_of_ble_eq_true rfl) ?_
          rintro _ _ ⟨rfl, bm1, bl1, bt1, fm1, fl1, ft1, rfl⟩
          rw [hin]
          refine ⟨[(0, cSe), (1, cMk 3 4 bt1), (3, cBs bm1), (4, cIs 81 bl1), (2, cMk 5 6 ft1), (5, cBs fm1), (6, cIs 81 fl1), (8, cSm 9 10 ts hs nx s.1 bg en), (9, cIs 80 tx), (10, cIs 32 hd)], _, _, rfl, rfl, rfl, ?_⟩
          refine mj_ifeqB h.1 (tgt := 87) d_Sw_raiseAlerts_60 (by decide) (fun h6 => ?_) (fun h6 => ?_)
          · have hno : ¬ (g 5 = true ∧ raP 5 s.1) := fun z => h6 (by have h8 := ((hg 5).mp z.1).2; rw [hos] at h8; exact h8)
            refine mj_blk h.1 b_Sw_raiseAlerts_87 rfl trivial ?_
            refine mj_lpk [0, 2, 3, 4, 5] rfl ?_
            have hp2 := hp
            unfold raF at hp2
            rw [if_neg (show ¬ (g 5 = true ∧ raP 5 s.1) from hno)] at hp2
            rw [show (nI 5 + 1 : Int32) = nI 6 from rfl]
            have hk0 : k = 0 := by omega
            subst hk0
            exact ra_x l D cA st rc x y f1 cpt f3 spt f5 lv tx ts hd hs nx bg en wa Rw hrc h 6 (by omega) _ hp2 _ _ _ _ _ _
          · have hyes : g 5 = true ∧ raP 5 s.1 := ⟨(hg 5).mpr ⟨h4, by rw [hos]; exact h6⟩, h5⟩
            refine mj_blk h.1 b_Sw_raiseAlerts_63 rfl trivial ?_
            refine mj_callV h zGood (ev_Sm_setRaised l D cA _ _ _ _ _ _ _ _ _) v_Sm_setRaised l_Sw_raiseAlerts_66 d_Sw_raiseAlerts_66 rfl ⟨by decide, by decide⟩ ⟨by decide, by decide⟩ [(0, 80), (1, 81), (2, 82)] rfl rfl rfl rfl rfl rfl (Nat.le_of_ble_eq_true rfl) ?_
            rintro _ _ ⟨rfl, rfl⟩
            refine mj_k rfl rfl ?_
            refine mj_blk h.1 b_Sw_raiseAlerts_69 rfl trivial ?_
            refine mj_callV h zGood (ev_Sm_size l D cA _ _ _ _ _ _ _ _) v_Sm_size l_Sw_raiseAlerts_81 d_Sw_raiseAlerts_81 rfl ⟨by decide, by decide⟩ ⟨by decide, by decide⟩ [(0, 80), (1, 81), (2, 82)] rfl rfl rfl rfl rfl rfl (Nat.le_of_ble_eq_true rfl) ?_
            rintro _ _ ⟨rfl, rfl⟩
            refine mj_k rfl rfl ?_
            refine mj_callV h zGood (ev_Al_add l D cA _ _ _ (aNx s.2.2.2) (aNx_ok hs9).1 (aNx_ok hs9).2 _ _ _ _) v_Al_add l_Sw_raiseAlerts_84 d_Sw_raiseAlerts_84 rfl ⟨by decide, by decide⟩ ⟨by decide, by decide⟩ [(0, 70), (1, 71)] rfl rfl rfl rfl rfl rfl (Nat.le_of_ble_eq_true rfl) ?_
            rintro _ _ ⟨rfl, rfl⟩
            rw [show nI (aNx s.2.2.2) = nI (aNx s.2.2.2 + 1) - 1 from (nI_pred _).symm]
            refine mj_k rfl rfl ?_
            refine mj_blk h.1 b_Sw_raiseAlerts_87 rfl trivial ?_
            refine mj_lpk [0, 2, 3, 4, 5] rfl ?_
            have hp2 := hp
            unfold raF at hp2
            rw [if_pos (show (g 5 = true ∧ raP 5 s.1) from hyes)] at hp2
            rw [show (nI 5 + 1 : Int32) = nI 6 from rfl]
            have hk0 : k = 0 := by omega
            subst hk0
            exact ra_x l D cA st rc x y f1 cpt f3 spt f5 lv tx ts hd hs nx bg en wa Rw hrc h 6 (by omega) _ hp2 _ _ _ _ _ _
        · rw [hos] at hlen
          exact absurd hlen (by simp)
      · refine mj_blk h.1 b_Sw_raiseAlerts_47 rfl trivial ?_
        refine mj_blk h.1 b_Sw_raiseAlerts_87 rfl trivial ?_
        refine mj_lpk [0, 2, 3, 4, 5] rfl ?_
        have hp2 := hp
        unfold raF at hp2
        rw [if_neg (show ¬ (g 5 = true ∧ raP 5 s.1) from fun z => g2 z.2)] at hp2
        rw [show (nI 5 + 1 : Int32) = nI 6 from rfl]
        have hk0 : k = 0 := by omega
        subst hk0
        exact ra_x l D cA st rc x y f1 cpt f3 spt f5 lv tx ts hd hs nx bg en wa Rw hrc h 6 (by omega) _ hp2 _ _ _ _ _ _
set_option maxRecDepth 100000 in
set_option maxHeartbeats 8000000 in
theorem ra_4 {X : mj_X} {post : mj_R} (hrc : rc ≤ 6) (ht : ts ≤ 80) (hR : raR rc rl wy pt os tx ts Rw) (hg : ∀ r, g r = true ↔ raG wy pt os wa spt tx ts r) (h : mj_E zG X l D cA m_Sw_raiseAlerts 4 160 0 0 (fun _ => True) post) (k : Nat) (hk : 4 + k = rc) (s : raT) (hs9 : s.2.2.2 ≤ 24) (hp : (∀ (bm bl : Nat → Int32) (bt : Int32) (fm fl : Nat → Int32) (ft : Int32), post none ([(50, cSw st rc), (60, .inr (7, [.ref 61, .ref 62])), (61, cMk 63 64 bt), (63, cBs bm), (64, cIs 81 bl), (62, cMk 65 66 ft), (65, cBs fm), (66, cIs 81 fl), (90, cFl x y f1 cpt f3 spt f5 lv), (80, cSm 81 82 ts hs nx (raF g cpt wa ts k 4 s).1 bg en), (81, cIs 80 tx), (82, cIs 32 hd), (70, .inr (0, [.ref 71, .int (raF g cpt wa ts k 4 s).2.2.1, .int (nI (raF g cpt wa ts k 4 s).2.2.2 - 1)])), (71, cIs 96 (raF g cpt wa ts k 4 s).2.1)] ++ Rw))) (bm bl : Nat → Int32) (bt : Int32) (fm fl : Nat → Int32) (ft : Int32) : mj_W zG X 0 0 3 [(4, .int (nI 4)), (0, .ref 50), (1, .ref 90), (2, .ref 80), (3, .int wa)] [] ([(50, cSw st rc), (60, .inr (7, [.ref 61, .ref 62])), (61, cMk 63 64 bt), (63, cBs bm), (64, cIs 81 bl), (62, cMk 65 66 ft), (65, cBs fm), (66, cIs 81 fl), (90, cFl x y f1 cpt f3 spt f5 lv), (80, cSm 81 82 ts hs nx s.1 bg en), (81, cIs 80 tx), (82, cIs 32 hd), (70, .inr (0, [.ref 71, .int s.2.2.1, .int (nI s.2.2.2 - 1)])), (71, cIs 96 s.2.1)] ++ Rw) := by
  cases k with
  | zero => exact ra_x l D cA st rc x y f1 cpt f3 spt f5 lv tx ts hd hs nx bg en wa Rw hrc h 4 (by omega) s hp bm bl bt fm fl ft
  | succ k =>
    have hlt : 4 < rc := by omega
    obtain ⟨hcells, hget, hlen, hz, hin0⟩ := hR.2 4 hlt
    have hrule : (140, cRu 141 (wy 4) (pt 4) (os 4).length) ∈ Rw := rC_rule hlen hcells
    refine mj_blk h.1 b_Sw_raiseAlerts_3 rfl trivial ?_
    refine mj_icge h.1 (tgt := 93) d_Sw_raiseAlerts_9 (by decide) (fun h1 => absurd ((nI_leI (by omega) (by decide)).mp h1) (by omega)) (fun h1 => ?_)
    refine mj_blk h.1 b_Sw_raiseAlerts_12 rfl trivial ?_
    refine mj_callVx (wa := [(50, cSw st rc)]) (wb := [(53, cRs rl)]) (wf := [(50, cSw st rc), (60, .inr (7, [.ref 61, .ref 62])), (61, cMk 63 64 bt), (63, cBs bm), (64, cIs 81 bl), (62, cMk 65 66 ft), (65, cBs fm), (66, cIs 81 fl), (90, cFl x y f1 cpt f3 spt f5 lv), (80, cSm 81 82 ts hs nx s.1 bg en), (81, cIs 80 tx), (82, cIs 32 hd), (70, .inr (0, [.ref 71, .int s.2.2.1, .int (nI s.2.2.2 - 1)])), (71, cIs 96 s.2.1)]) (Rw := Rw) h zGood (ev_Sw_ruleAt l D cA st rc hrc rl 4 140 hlt hget) v_Sw_ruleAt l_Sw_raiseAlerts_15 d_Sw_raiseAlerts_15 rfl ⟨by decide, by decide⟩ ⟨by decide, by decide⟩ [] rfl rfl rfl (fun q hq => by rw [mj_wr0] at hq; rw [List.mem_singleton.mp hq]; exact hR.1) rfl rfl (Nat.le_of_ble_eq_true rfl) ?_
    rintro _ _ ⟨rfl, rfl⟩
    refine ⟨[(50, cSw st rc)], _, _, rfl, rfl, rfl, ?_⟩
    refine mj_blk h.1 b_Sw_raiseAlerts_18 rfl trivial ?_
    refine mj_ifnull_r h.1 d_Sw_raiseAlerts_22 ?_
    refine mj_blk h.1 b_Sw_raiseAlerts_25 rfl trivial ?_
    refine mj_callVx (wa := []) (wb := [(0, cRu 1 (wy 4) (pt 4) (os 4).length)]) (wf := [(50, cSw st rc), (60, .inr (7, [.ref 61, .ref 62])), (61, cMk 63 64 bt), (63, cBs bm), (64, cIs 81 bl), (62, cMk 65 66 ft), (65, cBs fm), (66, cIs 81 fl), (90, cFl x y f1 cpt f3 spt f5 lv), (80, cSm 81 82 ts hs nx s.1 bg en), (81, cIs 80 tx), (82, cIs 32 hd), (70, .inr (0, [.ref 71, .int s.2.2.1, .int (nI s.2.2.2 - 1)])), (71, cIs 96 s.2.1)]) (Rw := Rw) h zGood (ev_Ru_isFor l D cA (wy 4) (pt 4) (os 4).length wa spt) v_Ru_isFor l_Sw_raiseAlerts_32 d_Sw_raiseAlerts_32 rfl ⟨by decide, by decide⟩ ⟨by decide, by decide⟩ [(0, 140), (1, 141)] rfl rfl rfl (fun q hq => by rw [List.mem_singleton.mp hq]; exact hrule) rfl rfl (Nat.le_of_ble_eq_true rfl) ?_
    rintro _ _ ⟨rfl, rfl⟩
    refine ⟨[], _, _, rfl, rfl, rfl, ?_⟩
    first | refine mj_ifeqB h.1 (tgt := 87) d_Sw_raiseAlerts_35 (by decide) (fun g1 => ?_) (fun g1 => ?_) | refine mj_ifeq h.1 (tgt := 87) d_Sw_raiseAlerts_35 (by decide) (fun g1 => ?_) (fun g1 => ?_)
    · refine mj_blk h.1 b_Sw_raiseAlerts_87 rfl trivial ?_
      refine mj_lpk [0, 2, 3, 4, 5] rfl ?_
      have hp2 := hp
      unfold raF at hp2
      rw [if_neg (show ¬ (g 4 = true ∧ raP 4 s.1) from fun z => g1 ((hg 4).mp z.1).1)] at hp2
      rw [show (nI 4 + 1 : Int32) = nI 5 from rfl]
      exact ra_5 l D cA st rc x y f1 cpt f3 spt f5 lv tx ts hd hs nx bg en wa rl wy pt os Rw g hrc ht hR hg h k (by omega) _ hs9 hp2 _ _ _ _ _ _
    · refine mj_blk h.1 b_Sw_raiseAlerts_38 rfl trivial ?_
      refine mj_callV h zGood (ev_Sm_hasRaised l D cA _ _ _ _ _ _ _ _ _) v_Sm_hasRaised l_Sw_raiseAlerts_41 d_Sw_raiseAlerts_41 rfl ⟨by decide, by decide⟩ ⟨by decide, by decide⟩ [(0, 80), (1, 81), (2, 82)] rfl rfl rfl rfl rfl rfl (Nat.le_of_ble_eq_true rfl) ?_
      rintro _ _ ⟨rfl, rfl⟩
      refine mj_k rfl rfl ?_
      first | refine mj_ifeqB h.1 (tgt := 50) d_Sw_raiseAlerts_44 (by decide) (fun g2 => ?_) (fun g2 => ?_) | refine mj_ifeq h.1 (tgt := 50) d_Sw_raiseAlerts_44 (by decide) (fun g2 => ?_) (fun g2 => ?_)
      · have h4 := g1
        have h5 : raP 4 s.1 := Decidable.not_not.mp g2
        refine mj_blk h.1 b_Sw_raiseAlerts_50 rfl trivial ?_
        rcases hos : os 4 with _ | ⟨t0, _ | ⟨t1, _ | ⟨t2, _ | ⟨t3, os9⟩⟩⟩⟩
        · rw [hos] at hcells hz hin0
          refine mj_callVx (wa := [(0, cSe), (1, cMk 3 4 bt), (3, cBs bm), (4, cIs 81 bl), (2, cMk 5 6 ft), (5, cBs fm), (6, cIs 81 fl), (8, cSm 9 10 ts hs nx s.1 bg en), (9, cIs 80 tx), (10, cIs 32 hd)]) (wb := [(11, cRu 12 (wy 4) (pt 4) 0), (12, cOs [none, none, none])]) (wf := [(50, cSw st rc), (60, .inr (7, [.ref 61, .ref 62])), (61, cMk 63 64 bt), (63, cBs bm), (64, cIs 81 bl), (62, cMk 65 66 ft), (65, cBs fm), (66, cIs 81 fl), (90, cFl x y f1 cpt f3 spt f5 lv), (80, cSm 81 82 ts hs nx s.1 bg en), (81, cIs 80 tx), (82, cIs 32 hd), (70, .inr (0, [.ref 71, .int s.2.2.1, .int (nI s.2.2.2 - 1)])), (71, cIs 96 s.2.1)]) (Rw := Rw) h zGood (ev_Se_holds_0 l D cA (wy 4) (pt 4) tx ts hd hs nx s.1 bg en ht bm bl bt fm fl ft) v_Se_holds l_Sw_raiseAlerts_57 d_Sw_raiseAlerts_57 rfl ⟨by decide, by decide⟩ ⟨by decide, by decide⟩ [(0, 60), (1, 61), (2, 62), (3, 63), (4, 64), (5, 65), (6, 66), (8, 80), (9, 81), (10, 82), (11, 140), (12, 141), (20, 142), (21, 143), (22, 144)] rfl rfl rfl (fun q hq => hcells q hq) rfl rfl (Nat.le_of_ble_eq_true rfl) ?_
          rintro _ _ ⟨rfl, bm1, bl1, bt1, fm1, fl1, ft1, rfl⟩
          refine ⟨[(0, cSe), (1, cMk 3 4 bt1), (3, cBs bm1), (4, cIs 81 bl1), (2, cMk 5 6 ft1), (5, cBs fm1), (6, cIs 81 fl1), (8, cSm 9 10 ts hs nx s.1 bg en), (9, cIs 80 tx), (10, cIs 32 hd)], _, _, rfl, rfl, rfl, ?_⟩
          refine mj_ifeq0 h.1 (tgt := 87) d_Sw_raiseAlerts_60 (by decide) ?_
          have hno : ¬ (g 4 = true ∧ raP 4 s.1) := fun z => by
            have h8 := ((hg 4).mp z.1).2
            rw [hos] at h8
            cases h8
          refine mj_blk h.1 b_Sw_raiseAlerts_87 rfl trivial ?_
          refine mj_lpk [0, 2, 3, 4, 5] rfl ?_
          have hp2 := hp
          unfold raF at hp2
          rw [if_neg (show ¬ (g 4 = true ∧ raP 4 s.1) from hno)] at hp2
          rw [show (nI 4 + 1 : Int32) = nI 5 from rfl]
          exact ra_5 l D cA st rc x y f1 cpt f3 spt f5 lv tx ts hd hs nx bg en wa rl wy pt os Rw g hrc ht hR hg h k (by omega) _ hs9 hp2 _ _ _ _ _ _
        · rw [hos] at hcells hz hin0
          have hin := hin0 bm bl fm fl (List.cons_ne_nil _ _)
          refine mj_callVx (wa := [(0, cSe), (1, cMk 3 4 bt), (3, cBs bm), (4, cIs 81 bl), (2, cMk 5 6 ft), (5, cBs fm), (6, cIs 81 fl), (8, cSm 9 10 ts hs nx s.1 bg en), (9, cIs 80 tx), (10, cIs 32 hd)]) (wb := [(11, cRu 12 (wy 4) (pt 4) 1), (12, cOs [some 20, none, none]), (20, cOt t0)]) (wf := [(50, cSw st rc), (60, .inr (7, [.ref 61, .ref 62])), (61, cMk 63 64 bt), (63, cBs bm), (64, cIs 81 bl), (62, cMk 65 66 ft), (65, cBs fm), (66, cIs 81 fl), (90, cFl x y f1 cpt f3 spt f5 lv), (80, cSm 81 82 ts hs nx s.1 bg en), (81, cIs 80 tx), (82, cIs 32 hd), (70, .inr (0, [.ref 71, .int s.2.2.1, .int (nI s.2.2.2 - 1)])), (71, cIs 96 s.2.1)]) (Rw := Rw) h zGood (ev_Se_holds_1 l D cA (wy 4) (pt 4) tx ts hd hs nx s.1 bg en ht t0 (hz t0 (by simp)) bm bl bt fm fl ft) v_Se_holds l_Sw_raiseAlerts_57 d_Sw_raiseAlerts_57 rfl ⟨by decide, by decide⟩ ⟨by decide, by decide⟩ [(0, 60), (1, 61), (2, 62), (3, 63), (4, 64), (5, 65), (6, 66), (8, 80), (9, 81), (10, 82), (11, 140), (12, 141), (20, 142), (21, 143), (22, 144)] rfl rfl rfl (fun q hq => hcells q hq) rfl rfl (Nat.le_of_ble_eq_true rfl) ?_
          rintro _ _ ⟨rfl, bm1, bl1, bt1, fm1, fl1, ft1, rfl⟩
          rw [hin]
          refine ⟨[(0, cSe), (1, cMk 3 4 bt1), (3, cBs bm1), (4, cIs 81 bl1), (2, cMk 5 6 ft1), (5, cBs fm1), (6, cIs 81 fl1), (8, cSm 9 10 ts hs nx s.1 bg en), (9, cIs 80 tx), (10, cIs 32 hd)], _, _, rfl, rfl, rfl, ?_⟩
          refine mj_ifeqB h.1 (tgt := 87) d_Sw_raiseAlerts_60 (by decide) (fun h6 => ?_) (fun h6 => ?_)
          · have hno : ¬ (g 4 = true ∧ raP 4 s.1) := fun z => h6 (by have h8 := ((hg 4).mp z.1).2; rw [hos] at h8; exact h8)
            refine mj_blk h.1 b_Sw_raiseAlerts_87 rfl trivial ?_
            refine mj_lpk [0, 2, 3, 4, 5] rfl ?_
            have hp2 := hp
            unfold raF at hp2
            rw [if_neg (show ¬ (g 4 = true ∧ raP 4 s.1) from hno)] at hp2
            rw [show (nI 4 + 1 : Int32) = nI 5 from rfl]
            exact ra_5 l D cA st rc x y f1 cpt f3 spt f5 lv tx ts hd hs nx bg en wa rl wy pt os Rw g hrc ht hR hg h k (by omega) _ hs9 hp2 _ _ _ _ _ _
          · have hyes : g 4 = true ∧ raP 4 s.1 := ⟨(hg 4).mpr ⟨h4, by rw [hos]; exact h6⟩, h5⟩
            refine mj_blk h.1 b_Sw_raiseAlerts_63 rfl trivial ?_
            refine mj_callV h zGood (ev_Sm_setRaised l D cA _ _ _ _ _ _ _ _ _) v_Sm_setRaised l_Sw_raiseAlerts_66 d_Sw_raiseAlerts_66 rfl ⟨by decide, by decide⟩ ⟨by decide, by decide⟩ [(0, 80), (1, 81), (2, 82)] rfl rfl rfl rfl rfl rfl (Nat.le_of_ble_eq_true rfl) ?_
            rintro _ _ ⟨rfl, rfl⟩
            refine mj_k rfl rfl ?_
            refine mj_blk h.1 b_Sw_raiseAlerts_69 rfl trivial ?_
            refine mj_callV h zGood (ev_Sm_size l D cA _ _ _ _ _ _ _ _) v_Sm_size l_Sw_raiseAlerts_81 d_Sw_raiseAlerts_81 rfl ⟨by decide, by decide⟩ ⟨by decide, by decide⟩ [(0, 80), (1, 81), (2, 82)] rfl rfl rfl rfl rfl rfl (Nat.le_of_ble_eq_true rfl) ?_
            rintro _ _ ⟨rfl, rfl⟩
            refine mj_k rfl rfl ?_
            refine mj_callV h zGood (ev_Al_add l D cA _ _ _ (aNx s.2.2.2) (aNx_ok hs9).1 (aNx_ok hs9).2 _ _ _ _) v_Al_add l_Sw_raiseAlerts_84 d_Sw_raiseAlerts_84 rfl ⟨by decide, by decide⟩ ⟨by decide, by decide⟩ [(0, 70), (1, 71)] rfl rfl rfl rfl rfl rfl (Nat.le_of_ble_eq_true rfl) ?_
            rintro _ _ ⟨rfl, rfl⟩
            rw [show nI (aNx s.2.2.2) = nI (aNx s.2.2.2 + 1) - 1 from (nI_pred _).symm]
            refine mj_k rfl rfl ?_
            refine mj_blk h.1 b_Sw_raiseAlerts_87 rfl trivial ?_
            refine mj_lpk [0, 2, 3, 4, 5] rfl ?_
            have hp2 := hp
            unfold raF at hp2
            rw [if_pos (show (g 4 = true ∧ raP 4 s.1) from hyes)] at hp2
            rw [show (nI 4 + 1 : Int32) = nI 5 from rfl]
            exact ra_5 l D cA st rc x y f1 cpt f3 spt f5 lv tx ts hd hs nx bg en wa rl wy pt os Rw g hrc ht hR hg h k (by omega) _ (Nat.succ_le_of_lt (aNx_ok hs9).1) hp2 _ _ _ _ _ _
        · rw [hos] at hcells hz hin0
          have hin := hin0 bm bl fm fl (List.cons_ne_nil _ _)
          refine mj_callVx (wa := [(0, cSe), (1, cMk 3 4 bt), (3, cBs bm), (4, cIs 81 bl), (2, cMk 5 6 ft), (5, cBs fm), (6, cIs 81 fl), (8, cSm 9 10 ts hs nx s.1 bg en), (9, cIs 80 tx), (10, cIs 32 hd)]) (wb := [(11, cRu 12 (wy 4) (pt 4) 2), (12, cOs [some 20, some 21, none]), (20, cOt t0), (21, cOt t1)]) (wf := [(50, cSw st rc), (60, .inr (7, [.ref 61, .ref 62])), (61, cMk 63 64 bt), (63, cBs bm), (64, cIs 81 bl), (62, cMk 65 66 ft), (65, cBs fm), (66, cIs 81 fl), (90, cFl x y f1 cpt f3 spt f5 lv), (80, cSm 81 82 ts hs nx s.1 bg en), (81, cIs 80 tx), (82, cIs 32 hd), (70, .inr (0, [.ref 71, .int s.2.2.1, .int (nI s.2.2.2 - 1)])), (71, cIs 96 s.2.1)]) (Rw := Rw) h zGood (ev_Se_holds_2 l D cA (wy 4) (pt 4) tx ts hd hs nx s.1 bg en ht t0 (hz t0 (by simp)) t1 (hz t1 (by simp)) bm bl bt fm fl ft) v_Se_holds l_Sw_raiseAlerts_57 d_Sw_raiseAlerts_57 rfl ⟨by decide, by decide⟩ ⟨by decide, by decide⟩ [(0, 60), (1, 61), (2, 62), (3, 63), (4, 64), (5, 65), (6, 66), (8, 80), (9, 81), (10, 82), (11, 140), (12, 141), (20, 142), (21, 143), (22, 144)] rfl rfl rfl (fun q hq => hcells q hq) rfl rfl (Nat.le_of_ble_eq_true rfl) ?_
          rintro _ _ ⟨rfl, bm1, bl1, bt1, fm1, fl1, ft1, rfl⟩
          rw [hin]
          refine ⟨[(0, cSe), (1, cMk 3 4 bt1), (3, cBs bm1), (4, cIs 81 bl1), (2, cMk 5 6 ft1), (5, cBs fm1), (6, cIs 81 fl1), (8, cSm 9 10 ts hs nx s.1 bg en), (9, cIs 80 tx), (10, cIs 32 hd)], _, _, rfl, rfl, rfl, ?_⟩
          refine mj_ifeqB h.1 (tgt := 87) d_Sw_raiseAlerts_60 (by decide) (fun h6 => ?_) (fun h6 => ?_)
          · have hno : ¬ (g 4 = true ∧ raP 4 s.1) := fun z => h6 (by have h8 := ((hg 4).mp z.1).2; rw [hos] at h8; exact h8)
            refine mj_blk h.1 b_Sw_raiseAlerts_87 rfl trivial ?_
            refine mj_lpk [0, 2, 3, 4, 5] rfl ?_
            have hp2 := hp
            unfold raF at hp2
            rw [if_neg (show ¬ (g 4 = true ∧ raP 4 s.1) from hno)] at hp2
            rw [show (nI 4 + 1 : Int32) = nI 5 from rfl]
            exact ra_5 l D cA st rc x y f1 cpt f3 spt f5 lv tx ts hd hs nx bg en wa rl wy pt os Rw g hrc ht hR hg h k (by omega) _ hs9 hp2 _ _ _ _ _ _
          · have hyes : g 4 = true ∧ raP 4 s.1 := ⟨(hg 4).mpr ⟨h4, by rw [hos]; exact h6⟩, h5⟩
            refine mj_blk h.1 b_Sw_raiseAlerts_63 rfl trivial ?_
            refine mj_callV h zGood (ev_Sm_setRaised l D cA _ _ _ _ _ _ _ _ _) v_Sm_setRaised l_Sw_raiseAlerts_66 d_Sw_raiseAlerts_66 rfl ⟨by decide, by decide⟩ ⟨by decide, by decide⟩ [(0, 80), (1, 81), (2, 82)] rfl rfl rfl rfl rfl rfl (Nat.le_of_ble_eq_true rfl) ?_
            rintro _ _ ⟨rfl, rfl⟩
            refine mj_k rfl rfl ?_
            refine mj_blk h.1 b_Sw_raiseAlerts_69 rfl trivial ?_
            refine mj_callV h zGood (ev_Sm_size l D cA _ _ _ _ _ _ _ _) v_Sm_size l_Sw_raiseAlerts_81 d_Sw_raiseAlerts_81 rfl ⟨by decide, by decide⟩ ⟨by decide, by decide⟩ [(0, 80), (1, 81), (2, 82)] rfl rfl rfl rfl rfl rfl (Nat.le_of_ble_eq_true rfl) ?_
            rintro _ _ ⟨rfl, rfl⟩
            refine mj_k rfl rfl ?_
            refine mj_callV h zGood (ev_Al_add l D cA _ _ _ (aNx s.2.2.2) (aNx_ok hs9).1 (aNx_ok hs9).2 _ _ _ _) v_Al_add l_Sw_raiseAlerts_84 d_Sw_raiseAlerts_84 rfl ⟨by decide, by decide⟩ ⟨by decide, by decide⟩ [(0, 70), (1, 71)] rfl rfl rfl rfl rfl rfl (Nat.le_of_ble_eq_true rfl) ?_
            rintro _ _ ⟨rfl, rfl⟩
            rw [show nI (aNx s.2.2.2) = nI (aNx s.2.2.2 + 1) - 1 from (nI_pred _).symm]
            refine mj_k rfl rfl ?_
            refine mj_blk h.1 b_Sw_raiseAlerts_87 rfl trivial ?_
            refine mj_lpk [0, 2, 3, 4, 5] rfl ?_
            have hp2 := hp
            unfold raF at hp2
            rw [if_pos (show (g 4 = true ∧ raP 4 s.1) from hyes)] at hp2
            rw [show (nI 4 + 1 : Int32) = nI 5 from rfl]
            exact ra_5 l D cA st rc x y f1 cpt f3 spt f5 lv tx ts hd hs nx bg en wa rl wy pt os Rw g hrc ht hR hg h k (by omega) _ (Nat.succ_le_of_lt (aNx_ok hs9).1) hp2 _ _ _ _ _ _
        · rw [hos] at hcells hz hin0
          have hin := hin0 bm bl fm fl (List.cons_ne_nil _ _)
          refine mj_callVx (wa := [(0, cSe), (1, cMk 3 4 bt), (3, cBs bm), (4, cIs 81 bl), (2, cMk 5 6 ft), (5, cBs fm), (6, cIs 81 fl), (8, cSm 9 10 ts hs nx s.1 bg en), (9, cIs 80 tx), (10, cIs 32 hd)]) (wb := [(11, cRu 12 (wy 4) (pt 4) 3), (12, cOs [some 20, some 21, some 22]), (20, cOt t0), (21, cOt t1), (22, cOt t2)]) (wf := [(50, cSw st rc), (60, .inr (7, [.ref 61, .ref 62])), (61, cMk 63 64 bt), (63, cBs bm), (64, cIs 81 bl), (62, cMk 65 66 ft), (65, cBs fm), (66, cIs 81 fl), (90, cFl x y f1 cpt f3 spt f5 lv), (80, cSm 81 82 ts hs nx s.1 bg en), (81, cIs 80 tx), (82, cIs 32 hd), (70, .inr (0, [.ref 71, .int s.2.2.1, .int (nI s.2.2.2 - 1)])), (71, cIs 96 s.2.1)]) (Rw := Rw) h zGood (ev_Se_holds_3 l D cA (wy 4) (pt 4) tx ts hd hs nx s.1 bg en ht t0 (hz t0 (by simp)) t1 (hz t1 (by simp)) t2 (hz t2 (by simp)) bm bl bt fm fl ft) v_Se_holds l_Sw_raiseAlerts_57 d_Sw_raiseAlerts_57 rfl ⟨by decide, by decide⟩ ⟨by decide, by decide⟩ [(0, 60), (1, 61), (2, 62), (3, 63), (4, 64), (5, 65), (6, 66), (8, 80), (9, 81), (10, 82), (11, 140), (12, 141), (20, 142), (21, 143), (22, 144)] rfl rfl rfl (fun q hq => hcells q hq) rfl rfl (Nat.le_of_ble_eq_true rfl) ?_
          rintro _ _ ⟨rfl, bm1, bl1, bt1, fm1, fl1, ft1, rfl⟩
          rw [hin]
          refine ⟨[(0, cSe), (1, cMk 3 4 bt1), (3, cBs bm1), (4, cIs 81 bl1), (2, cMk 5 6 ft1), (5, cBs fm1), (6, cIs 81 fl1), (8, cSm 9 10 ts hs nx s.1 bg en), (9, cIs 80 tx), (10, cIs 32 hd)], _, _, rfl, rfl, rfl, ?_⟩
          refine mj_ifeqB h.1 (tgt := 87) d_Sw_raiseAlerts_60 (by decide) (fun h6 => ?_) (fun h6 => ?_)
          · have hno : ¬ (g 4 = true ∧ raP 4 s.1) := fun z => h6 (by have h8 := ((hg 4).mp z.1).2; rw [hos] at h8; exact h8)
            refine mj_blk h.1 b_Sw_raiseAlerts_87 rfl trivial ?_
            refine mj_lpk [0, 2, 3, 4, 5] rfl ?_
            have hp2 := hp
            unfold raF at hp2
            rw [if_neg (show ¬ (g 4 = true ∧ raP 4 s.1) from hno)] at hp2
            rw [show (nI 4 + 1 : Int32) = nI 5 from rfl]
            exact ra_5 l D cA st rc x y f1 cpt f3 spt f5 lv tx ts hd hs nx bg en wa rl wy pt os Rw g hrc ht hR hg h k (by omega) _ hs9 hp2 _ _ _ _ _ _
          · have hyes : g 4 = true ∧ raP 4 s.1 := ⟨(hg 4).mpr ⟨h4, by rw [hos]; exact h6⟩, h5⟩
            refine mj_blk h.1 b_Sw_raiseAlerts_63 rfl trivial ?_
            refine mj_callV h zGood (ev_Sm_setRaised l D cA _ _ _ _ _ _ _ _ _) v_Sm_setRaised l_Sw_raiseAlerts_66 d_Sw_raiseAlerts_66 rfl ⟨by decide, by decide⟩ ⟨by decide, by decide⟩ [(0, 80), (1, 81), (2, 82)] rfl rfl rfl rfl rfl rfl (Nat.le_of_ble_eq_true rfl) ?_
            rintro _ _ ⟨rfl, rfl⟩
            refine mj_k rfl rfl ?_
            refine mj_blk h.1 b_Sw_raiseAlerts_69 rfl trivial ?_
            refine mj_callV h zGood (ev_Sm_size l D cA _ _ _ _ _ _ _ _) v_Sm_size l_Sw_raiseAlerts_81 d_Sw_raiseAlerts_81 rfl ⟨by decide, by decide⟩ ⟨by decide, by decide⟩ [(0, 80), (1, 81), (2, 82)] rfl rfl rfl rfl rfl rfl (Nat.le_of_ble_eq_true rfl) ?_
            rintro _ _ ⟨rfl, rfl⟩
            refine mj_k rfl rfl ?_
            refine mj_callV h zGood (ev_Al_add l D cA _ _ _ (aNx s.2.2.2) (aNx_ok hs9).1 (aNx_ok hs9).2 _ _ _ _) v_Al_add l_Sw_raiseAlerts_84 d_Sw_raiseAlerts_84 rfl ⟨by decide, by decide⟩ ⟨by decide, by decide⟩ [(0, 70), (1, 71)] rfl rfl rfl rfl rfl rfl (Nat.le_of_ble_eq_true rfl) ?_
            rintro _ _ ⟨rfl, rfl⟩
            rw [show nI (aNx s.2.2.2) = nI (aNx s.2.2.2 + 1) - 1 from (nI_pred _).symm]
            refine mj_k rfl rfl ?_
            refine mj_blk h.1 b_Sw_raiseAlerts_87 rfl trivial ?_
            refine mj_lpk [0, 2, 3, 4, 5] rfl ?_
            have hp2 := hp
            unfold raF at hp2
            rw [if_pos (show (g 4 = true ∧ raP 4 s.1) from hyes)] at hp2
            rw [show (nI 4 + 1 : Int32) = nI 5 from rfl]
            exact ra_5 l D cA st rc x y f1 cpt f3 spt f5 lv tx ts hd hs nx bg en wa rl wy pt os Rw g hrc ht hR hg h k (by omega) _ (Nat.succ_le_of_lt (aNx_ok hs9).1) hp2 _ _ _ _ _ _
        · rw [hos] at hlen
          exact absurd hlen (by simp)
      · refine mj_blk h.1 b_Sw_raiseAlerts_47 rfl trivial ?_
        refine mj_blk h.1 b_Sw_raiseAlerts_87 rfl trivial ?_
        refine mj_lpk [0, 2, 3, 4, 5] rfl ?_
        have hp2 := hp
        unfold raF at hp2
        rw [if_neg (show ¬ (g 4 = true ∧ raP 4 s.1) from fun z => g2 z.2)] at hp2
        rw [show (nI 4 + 1 : Int32) = nI 5 from rfl]
        exact ra_5 l D cA st rc x y f1 cpt f3 spt f5 lv tx ts hd hs nx bg en wa rl wy pt os Rw g hrc ht hR hg h k (by omega) _ hs9 hp2 _ _ _ _ _ _
set_option maxRecDepth 100000 in
set_option maxHeartbeats 8000000 in
theorem ra_3 {X : mj_X} {post : mj_R} (hrc : rc ≤ 6) (ht : ts ≤ 80) (hR : raR rc rl wy pt os tx ts Rw) (hg : ∀ r, g r = true ↔ raG wy pt os wa spt tx ts r) (h : mj_E zG X l D cA m_Sw_raiseAlerts 4 160 0 0 (fun _ => True) post) (k : Nat) (hk : 3 + k = rc) (s : raT) (hs9 : s.2.2.2 ≤ 24) (hp : (∀ (bm bl : Nat → Int32) (bt : Int32) (fm fl : Nat → Int32) (ft : Int32), post none ([(50, cSw st rc), (60, .inr (7, [.ref 61, .ref 62])), (61, cMk 63 64 bt), (63, cBs bm), (64, cIs 81 bl), (62, cMk 65 66 ft), (65, cBs fm), (66, cIs 81 fl), (90, cFl x y f1 cpt f3 spt f5 lv), (80, cSm 81 82 ts hs nx (raF g cpt wa ts k 3 s).1 bg en), (81, cIs 80 tx), (82, cIs 32 hd), (70, .inr (0, [.ref 71, .int (raF g cpt wa ts k 3 s).2.2.1, .int (nI (raF g cpt wa ts k 3 s).2.2.2 - 1)])), (71, cIs 96 (raF g cpt wa ts k 3 s).2.1)] ++ Rw))) (bm bl : Nat → Int32) (bt : Int32) (fm fl : Nat → Int32) (ft : Int32) : mj_W zG X 0 0 3 [(4, .int (nI 3)), (0, .ref 50), (1, .ref 90), (2, .ref 80), (3, .int wa)] [] ([(50, cSw st rc), (60, .inr (7, [.ref 61, .ref 62])), (61, cMk 63 64 bt), (63, cBs bm), (64, cIs 81 bl), (62, cMk 65 66 ft), (65, cBs fm), (66, cIs 81 fl), (90, cFl x y f1 cpt f3 spt f5 lv), (80, cSm 81 82 ts hs nx s.1 bg en), (81, cIs 80 tx), (82, cIs 32 hd), (70, .inr (0, [.ref 71, .int s.2.2.1, .int (nI s.2.2.2 - 1)])), (71, cIs 96 s.2.1)] ++ Rw) := by
  cases k with
  | zero => exact ra_x l D cA st rc x y f1 cpt f3 spt f5 lv tx ts hd hs nx bg en wa Rw hrc h 3 (by omega) s hp bm bl bt fm fl ft
  | succ k =>
    have hlt : 3 < rc := by omega
    obtain ⟨hcells, hget, hlen, hz, hin0⟩ := hR.2 3 hlt
    have hrule : (130, cRu 131 (wy 3) (pt 3) (os 3).length) ∈ Rw := rC_rule hlen hcells
    refine mj_blk h.1 b_Sw_raiseAlerts_3 rfl trivial ?_
    refine mj_icge h.1 (tgt := 93) d_Sw_raiseAlerts_9 (by decide) (fun h1 => absurd ((nI_leI (by omega) (by decide)).mp h1) (by omega)) (fun h1 => ?_)
    refine mj_blk h.1 b_Sw_raiseAlerts_12 rfl trivial ?_
    refine mj_callVx (wa := [(50, cSw st rc)]) (wb := [(53, cRs rl)]) (wf := [(50, cSw st rc), (60, .inr (7, [.ref 61, .ref 62])), (61, cMk 63 64 bt), (63, cBs bm), (64, cIs 81 bl), (62, cMk 65 66 ft), (65, cBs fm), (66, cIs 81 fl), (90, cFl x y f1 cpt f3 spt f5 lv), (80, cSm 81 82 ts hs nx s.1 bg en), (81, cIs 80 tx), (82, cIs 32 hd), (70, .inr (0, [.ref 71, .int s.2.2.1, .int (nI s.2.2.2 - 1)])), (71, cIs 96 s.2.1)]) (Rw := Rw) h zGood (ev_Sw_ruleAt l D cA st rc hrc rl 3 130 hlt hget) v_Sw_ruleAt l_Sw_raiseAlerts_15 d_Sw_raiseAlerts_15 rfl ⟨by decide, by decide⟩ ⟨by decide, by decide⟩ [] rfl rfl rfl (fun q hq => by rw [mj_wr0] at hq; rw [List.mem_singleton.mp hq]; exact hR.1) rfl rfl (Nat.le_of_ble_eq_true rfl) ?_
    rintro _ _ ⟨rfl, rfl⟩
    refine ⟨[(50, cSw st rc)], _, _, rfl, rfl, rfl, ?_⟩
    refine mj_blk h.1 b_Sw_raiseAlerts_18 rfl trivial ?_
    refine mj_ifnull_r h.1 d_Sw_raiseAlerts_22 ?_
    refine mj_blk h.1 b_Sw_raiseAlerts_25 rfl trivial ?_
    refine mj_callVx (wa := []) (wb := [(0, cRu 1 (wy 3) (pt 3) (os 3).length)]) (wf := [(50, cSw st rc), (60, .inr (7, [.ref 61, .ref 62])), (61, cMk 63 64 bt), (63, cBs bm), (64, cIs 81 bl), (62, cMk 65 66 ft), (65, cBs fm), (66, cIs 81 fl), (90, cFl x y f1 cpt f3 spt f5 lv), (80, cSm 81 82 ts hs nx s.1 bg en), (81, cIs 80 tx), (82, cIs 32 hd), (70, .inr (0, [.ref 71, .int s.2.2.1, .int (nI s.2.2.2 - 1)])), (71, cIs 96 s.2.1)]) (Rw := Rw) h zGood (ev_Ru_isFor l D cA (wy 3) (pt 3) (os 3).length wa spt) v_Ru_isFor l_Sw_raiseAlerts_32 d_Sw_raiseAlerts_32 rfl ⟨by decide, by decide⟩ ⟨by decide, by decide⟩ [(0, 130), (1, 131)] rfl rfl rfl (fun q hq => by rw [List.mem_singleton.mp hq]; exact hrule) rfl rfl (Nat.le_of_ble_eq_true rfl) ?_
    rintro _ _ ⟨rfl, rfl⟩
    refine ⟨[], _, _, rfl, rfl, rfl, ?_⟩
    first | refine mj_ifeqB h.1 (tgt := 87) d_Sw_raiseAlerts_35 (by decide) (fun g1 => ?_) (fun g1 => ?_) | refine mj_ifeq h.1 (tgt := 87) d_Sw_raiseAlerts_35 (by decide) (fun g1 => ?_) (fun g1 => ?_)
    · refine mj_blk h.1 b_Sw_raiseAlerts_87 rfl trivial ?_
      refine mj_lpk [0, 2, 3, 4, 5] rfl ?_
      have hp2 := hp
      unfold raF at hp2
      rw [if_neg (show ¬ (g 3 = true ∧ raP 3 s.1) from fun z => g1 ((hg 3).mp z.1).1)] at hp2
      rw [show (nI 3 + 1 : Int32) = nI 4 from rfl]
      exact ra_4 l D cA st rc x y f1 cpt f3 spt f5 lv tx ts hd hs nx bg en wa rl wy pt os Rw g hrc ht hR hg h k (by omega) _ hs9 hp2 _ _ _ _ _ _
    · refine mj_blk h.1 b_Sw_raiseAlerts_38 rfl trivial ?_
      refine mj_callV h zGood (ev_Sm_hasRaised l D cA _ _ _ _ _ _ _ _ _) v_Sm_hasRaised l_Sw_raiseAlerts_41 d_Sw_raiseAlerts_41 rfl ⟨by decide, by decide⟩ ⟨by decide, by decide⟩ [(0, 80), (1, 81), (2, 82)] rfl rfl rfl rfl rfl rfl (Nat.le_of_ble_eq_true rfl) ?_
      rintro _ _ ⟨rfl, rfl⟩
      refine mj_k rfl rfl ?_
      first | refine mj_ifeqB h.1 (tgt := 50) d_Sw_raiseAlerts_44 (by decide) (fun g2 => ?_) (fun g2 => ?_) | refine mj_ifeq h.1 (tgt := 50) d_Sw_raiseAlerts_44 (by decide) (fun g2 => ?_) (fun g2 => ?_)
      · have h4 := g1
        have h5 : raP 3 s.1 := Decidable.not_not.mp g2
        refine mj_blk h.1 b_Sw_raiseAlerts_50 rfl trivial ?_
        rcases hos : os 3 with _ | ⟨t0, _ | ⟨t1, _ | ⟨t2, _ | ⟨t3, os9⟩⟩⟩⟩
        · rw [hos] at hcells hz hin0
          refine mj_callVx (wa := [(0, cSe), (1, cMk 3 4 bt), (3, cBs bm), (4, cIs 81 bl), (2, cMk 5 6 ft), (5, cBs fm), (6, cIs 81 fl), (8, cSm 9 10 ts hs nx s.1 bg en), (9, cIs 80 tx), (10, cIs 32 hd)]) (wb := [(11, cRu 12 (wy 3) (pt 3) 0), (12, cOs [none, none, none])]) (wf := [(50, cSw st rc), (60, .inr (7, [.ref 61, .ref 62])), (61, cMk 63 64 bt), (63, cBs bm), (64, cIs 81 bl), (62, cMk 65 66 ft), (65, cBs fm), (66, cIs 81 fl), (90, cFl x y f1 cpt f3 spt f5 lv), (80, cSm 81 82 ts hs nx s.1 bg en), (81, cIs 80 tx), (82, cIs 32 hd), (70, .inr (0, [.ref 71, .int s.2.2.1, .int (nI s.2.2.2 - 1)])), (71, cIs 96 s.2.1)]) (Rw := Rw) h zGood (ev_Se_holds_0 l D cA (wy 3) (pt 3) tx ts hd hs nx s.1 bg en ht bm bl bt fm fl ft) v_Se_holds l_Sw_raiseAlerts_57 d_Sw_raiseAlerts_57 rfl ⟨by decide, by decide⟩ ⟨by decide, by decide⟩ [(0, 60), (1, 61), (2, 62), (3, 63), (4, 64), (5, 65), (6, 66), (8, 80), (9, 81), (10, 82), (11, 130), (12, 131), (20, 132), (21, 133), (22, 134)] rfl rfl rfl (fun q hq => hcells q hq) rfl rfl (Nat.le_of_ble_eq_true rfl) ?_
          rintro _ _ ⟨rfl, bm1, bl1, bt1, fm1, fl1, ft1, rfl⟩
          refine ⟨[(0, cSe), (1, cMk 3 4 bt1), (3, cBs bm1), (4, cIs 81 bl1), (2, cMk 5 6 ft1), (5, cBs fm1), (6, cIs 81 fl1), (8, cSm 9 10 ts hs nx s.1 bg en), (9, cIs 80 tx), (10, cIs 32 hd)], _, _, rfl, rfl, rfl, ?_⟩
          refine mj_ifeq0 h.1 (tgt := 87) d_Sw_raiseAlerts_60 (by decide) ?_
          have hno : ¬ (g 3 = true ∧ raP 3 s.1) := fun z => by
            have h8 := ((hg 3).mp z.1).2
            rw [hos] at h8
            cases h8
          refine mj_blk h.1 b_Sw_raiseAlerts_87 rfl trivial ?_
          refine mj_lpk [0, 2, 3, 4, 5] rfl ?_
          have hp2 := hp
          unfold raF at hp2
          rw [if_neg (show ¬ (g 3 = true ∧ raP 3 s.1) from hno)] at hp2
          rw [show (nI 3 + 1 : Int32) = nI 4 from rfl]
          exact ra_4 l D cA st rc x y f1 cpt f3 spt f5 lv tx ts hd hs nx bg en wa rl wy pt os Rw g hrc ht hR hg h k (by omega) _ hs9 hp2 _ _ _ _ _ _
        · rw [hos] at hcells hz hin0
          have hin := hin0 bm bl fm fl (List.cons_ne_nil _ _)
          refine mj_callVx (wa := [(0, cSe), (1, cMk 3 4 bt), (3, cBs bm), (4, cIs 81 bl), (2, cMk 5 6 ft), (5, cBs fm), (6, cIs 81 fl), (8, cSm 9 10 ts hs nx s.1 bg en), (9, cIs 80 tx), (10, cIs 32 hd)]) (wb := [(11, cRu 12 (wy 3) (pt 3) 1), (12, cOs [some 20, none, none]), (20, cOt t0)]) (wf := [(50, cSw st rc), (60, .inr (7, [.ref 61, .ref 62])), (61, cMk 63 64 bt), (63, cBs bm), (64, cIs 81 bl), (62, cMk 65 66 ft), (65, cBs fm), (66, cIs 81 fl), (90, cFl x y f1 cpt f3 spt f5 lv), (80, cSm 81 82 ts hs nx s.1 bg en), (81, cIs 80 tx), (82, cIs 32 hd), (70, .inr (0, [.ref 71, .int s.2.2.1, .int (nI s.2.2.2 - 1)])), (71, cIs 96 s.2.1)]) (Rw := Rw) h zGood (ev_Se_holds_1 l D cA (wy 3) (pt 3) tx ts hd hs nx s.1 bg en ht t0 (hz t0 (by simp)) bm bl bt fm fl ft) v_Se_holds l_Sw_raiseAlerts_57 d_Sw_raiseAlerts_57 rfl ⟨by decide, by decide⟩ ⟨by decide, by decide⟩ [(0, 60), (1, 61), (2, 62), (3, 63), (4, 64), (5, 65), (6, 66), (8, 80), (9, 81), (10, 82), (11, 130), (12, 131), (20, 132), (21, 133), (22, 134)] rfl rfl rfl (fun q hq => hcells q hq) rfl rfl (Nat.le_of_ble_eq_true rfl) ?_
          rintro _ _ ⟨rfl, bm1, bl1, bt1, fm1, fl1, ft1, rfl⟩
          rw [hin]
          refine ⟨[(0, cSe), (1, cMk 3 4 bt1), (3, cBs bm1), (4, cIs 81 bl1), (2, cMk 5 6 ft1), (5, cBs fm1), (6, cIs 81 fl1), (8, cSm 9 10 ts hs nx s.1 bg en), (9, cIs 80 tx), (10, cIs 32 hd)], _, _, rfl, rfl, rfl, ?_⟩
          refine mj_ifeqB h.1 (tgt := 87) d_Sw_raiseAlerts_60 (by decide) (fun h6 => ?_) (fun h6 => ?_)
          · have hno : ¬ (g 3 = true ∧ raP 3 s.1) := fun z => h6 (by have h8 := ((hg 3).mp z.1).2; rw [hos] at h8; exact h8)
            refine mj_blk h.1 b_Sw_raiseAlerts_87 rfl trivial ?_
            refine mj_lpk [0, 2, 3, 4, 5] rfl ?_
            have hp2 := hp
            unfold raF at hp2
            rw [if_neg (show ¬ (g 3 = true ∧ raP 3 s.1) from hno)] at hp2
            rw [show (nI 3 + 1 : Int32) = nI 4 from rfl]
            exact ra_4 l D cA st rc x y f1 cpt f3 spt f5 lv tx ts hd hs nx bg en wa rl wy pt os Rw g hrc ht hR hg h k (by omega) _ hs9 hp2 _ _ _ _ _ _
          · have hyes : g 3 = true ∧ raP 3 s.1 := ⟨(hg 3).mpr ⟨h4, by rw [hos]; exact h6⟩, h5⟩
            refine mj_blk h.1 b_Sw_raiseAlerts_63 rfl trivial ?_
            refine mj_callV h zGood (ev_Sm_setRaised l D cA _ _ _ _ _ _ _ _ _) v_Sm_setRaised l_Sw_raiseAlerts_66 d_Sw_raiseAlerts_66 rfl ⟨by decide, by decide⟩ ⟨by decide, by decide⟩ [(0, 80), (1, 81), (2, 82)] rfl rfl rfl rfl rfl rfl (Nat.le_of_ble_eq_true rfl) ?_
            rintro _ _ ⟨rfl, rfl⟩
            refine mj_k rfl rfl ?_
            refine mj_blk h.1 b_Sw_raiseAlerts_69 rfl trivial ?_
            refine mj_callV h zGood (ev_Sm_size l D cA _ _ _ _ _ _ _ _) v_Sm_size l_Sw_raiseAlerts_81 d_Sw_raiseAlerts_81 rfl ⟨by decide, by decide⟩ ⟨by decide, by decide⟩ [(0, 80), (1, 81), (2, 82)] rfl rfl rfl rfl rfl rfl (Nat.le_of_ble_eq_true rfl) ?_
            rintro _ _ ⟨rfl, rfl⟩
            refine mj_k rfl rfl ?_
            refine mj_callV h zGood (ev_Al_add l D cA _ _ _ (aNx s.2.2.2) (aNx_ok hs9).1 (aNx_ok hs9).2 _ _ _ _) v_Al_add l_Sw_raiseAlerts_84 d_Sw_raiseAlerts_84 rfl ⟨by decide, by decide⟩ ⟨by decide, by decide⟩ [(0, 70), (1, 71)] rfl rfl rfl rfl rfl rfl (Nat.le_of_ble_eq_true rfl) ?_
            rintro _ _ ⟨rfl, rfl⟩
            rw [show nI (aNx s.2.2.2) = nI (aNx s.2.2.2 + 1) - 1 from (nI_pred _).symm]
            refine mj_k rfl rfl ?_
            refine mj_blk h.1 b_Sw_raiseAlerts_87 rfl trivial ?_
            refine mj_lpk [0, 2, 3, 4, 5] rfl ?_
            have hp2 := hp
            unfold raF at hp2
            rw [if_pos (show (g 3 = true ∧ raP 3 s.1) from hyes)] at hp2
            rw [show (nI 3 + 1 : Int32) = nI 4 from rfl]
            exact ra_4 l D cA st rc x y f1 cpt f3 spt f5 lv tx ts hd hs nx bg en wa rl wy pt os Rw g hrc ht hR hg h k (by omega) _ (Nat.succ_le_of_lt (aNx_ok hs9).1) hp2 _ _ _ _ _ _
        · rw [hos] at hcells hz hin0
          have hin := hin0 bm bl fm fl (List.cons_ne_nil _ _)
          refine mj_callVx (wa := [(0, cSe), (1, cMk 3 4 bt), (3, cBs bm), (4, cIs 81 bl), (2, cMk 5 6 ft), (5, cBs fm), (6, cIs 81 fl), (8, cSm 9 10 ts hs nx s.1 bg en), (9, cIs 80 tx), (10, cIs 32 hd)]) (wb := [(11, cRu 12 (wy 3) (pt 3) 2), (12, cOs [some 20, some 21, none]), (20, cOt t0), (21, cOt t1)]) (wf := [(50, cSw st rc), (60, .inr (7, [.ref 61, .ref 62])), (61, cMk 63 64 bt), (63, cBs bm), (64, cIs 81 bl), (62, cMk 65 66 ft), (65, cBs fm), (66, cIs 81 fl), (90, cFl x y f1 cpt f3 spt f5 lv), (80, cSm 81 82 ts hs nx s.1 bg en), (81, cIs 80 tx), (82, cIs 32 hd), (70, .inr (0, [.ref 71, .int s.2.2.1, .int (nI s.2.2.2 - 1)])), (71, cIs 96 s.2.1)]) (Rw := Rw) h zGood (ev_Se_holds_2 l D cA (wy 3) (pt 3) tx ts hd hs nx s.1 bg en ht t0 (hz t0 (by simp)) t1 (hz t1 (by simp)) bm bl bt fm fl ft) v_Se_holds l_Sw_raiseAlerts_57 d_Sw_raiseAlerts_57 rfl ⟨by decide, by decide⟩ ⟨by decide, by decide⟩ [(0, 60), (1, 61), (2, 62), (3, 63), (4, 64), (5, 65), (6, 66), (8, 80), (9, 81), (10, 82), (11, 130), (12, 131), (20, 132), (21, 133), (22, 134)] rfl rfl rfl (fun q hq => hcells q hq) rfl rfl (Nat.le_of_ble_eq_true rfl) ?_
          rintro _ _ ⟨rfl, bm1, bl1, bt1, fm1, fl1, ft1, rfl⟩
          rw [hin]
          refine ⟨[(0, cSe), (1, cMk 3 4 bt1), (3, cBs bm1), (4, cIs 81 bl1), (2, cMk 5 6 ft1), (5, cBs fm1), (6, cIs 81 fl1), (8, cSm 9 10 ts hs nx s.1 bg en), (9, cIs 80 tx), (10, cIs 32 hd)], _, _, rfl, rfl, rfl, ?_⟩
          refine mj_ifeqB h.1 (tgt := 87) d_Sw_raiseAlerts_60 (by decide) (fun h6 => ?_) (fun h6 => ?_)
          · have hno : ¬ (g 3 = true ∧ raP 3 s.1) := fun z => h6 (by have h8 := ((hg 3).mp z.1).2; rw [hos] at h8; exact h8)
            refine mj_blk h.1 b_Sw_raiseAlerts_87 rfl trivial ?_
            refine mj_lpk [0, 2, 3, 4, 5] rfl ?_
            have hp2 := hp
            unfold raF at hp2
            rw [if_neg (show ¬ (g 3 = true ∧ raP 3 s.1) from hno)] at hp2
            rw [show (nI 3 + 1 : Int32) = nI 4 from rfl]
            exact ra_4 l D cA st rc x y f1 cpt f3 spt f5 lv tx ts hd hs nx bg en wa rl wy pt os Rw g hrc ht hR hg h k (by omega) _ hs9 hp2 _ _ _ _ _ _
          · have hyes : g 3 = true ∧ raP 3 s.1 := ⟨(hg 3).mpr ⟨h4, by rw [hos]; exact h6⟩, h5⟩
            refine mj_blk h.1 b_Sw_raiseAlerts_63 rfl trivial ?_
            refine mj_callV h zGood (ev_Sm_setRaised l D cA _ _ _ _ _ _ _ _ _) v_Sm_setRaised l_Sw_raiseAlerts_66 d_Sw_raiseAlerts_66 rfl ⟨by decide, by decide⟩ ⟨by decide, by decide⟩ [(0, 80), (1, 81), (2, 82)] rfl rfl rfl rfl rfl rfl (Nat.le_of_ble_eq_true rfl) ?_
            rintro _ _ ⟨rfl, rfl⟩
            refine mj_k rfl rfl ?_
            refine mj_blk h.1 b_Sw_raiseAlerts_69 rfl trivial ?_
            refine mj_callV h zGood (ev_Sm_size l D cA _ _ _ _ _ _ _ _) v_Sm_size l_Sw_raiseAlerts_81 d_Sw_raiseAlerts_81 rfl ⟨by decide, by decide⟩ ⟨by decide, by decide⟩ [(0, 80), (1, 81), (2, 82)] rfl rfl rfl rfl rfl rfl (Nat.le_of_ble_eq_true rfl) ?_
            rintro _ _ ⟨rfl, rfl⟩
            refine mj_k rfl rfl ?_
            refine mj_callV h zGood (ev_Al_add l D cA _ _ _ (aNx s.2.2.2) (aNx_ok hs9).1 (aNx_ok hs9).2 _ _ _ _) v_Al_add l_Sw_raiseAlerts_84 d_Sw_raiseAlerts_84 rfl ⟨by decide, by decide⟩ ⟨by decide, by decide⟩ [(0, 70), (1, 71)] rfl rfl rfl rfl rfl rfl (Nat.le_of_ble_eq_true rfl) ?_
            rintro _ _ ⟨rfl, rfl⟩
            rw [show nI (aNx s.2.2.2) = nI (aNx s.2.2.2 + 1) - 1 from (nI_pred _).symm]
            refine mj_k rfl rfl ?_
            refine mj_blk h.1 b_Sw_raiseAlerts_87 rfl trivial ?_
            refine mj_lpk [0, 2, 3, 4, 5] rfl ?_
            have hp2 := hp
            unfold raF at hp2
            rw [if_pos (show (g 3 = true ∧ raP 3 s.1) from hyes)] at hp2
            rw [show (nI 3 + 1 : Int32) = nI 4 from rfl]
            exact ra_4 l D cA st rc x y f1 cpt f3 spt f5 lv tx ts hd hs nx bg en wa rl wy pt os Rw g hrc ht hR hg h k (by omega) _ (Nat.succ_le_of_lt (aNx_ok hs9).1) hp2 _ _ _ _ _ _
        · rw [hos] at hcells hz hin0
          have hin := hin0 bm bl fm fl (List.cons_ne_nil _ _)
          refine mj_callVx (wa := [(0, cSe), (1, cMk 3 4 bt), (3, cBs bm), (4, cIs 81 bl), (2, cMk 5 6 ft), (5, cBs fm), (6, cIs 81 fl), (8, cSm 9 10 ts hs nx s.1 bg en), (9, cIs 80 tx), (10, cIs 32 hd)]) (wb := [(11, cRu 12 (wy 3) (pt 3) 3), (12, cOs [some 20, some 21, some 22]), (20, cOt t0), (21, cOt t1), (22, cOt t2)]) (wf := [(50, cSw st rc), (60, .inr (7, [.ref 61, .ref 62])), (61, cMk 63 64 bt), (63, cBs bm), (64, cIs 81 bl), (62, cMk 65 66 ft), (65, cBs fm), (66, cIs 81 fl), (90, cFl x y f1 cpt f3 spt f5 lv), (80, cSm 81 82 ts hs nx s.1 bg en), (81, cIs 80 tx), (82, cIs 32 hd), (70, .inr (0, [.ref 71, .int s.2.2.1, .int (nI s.2.2.2 - 1)])), (71, cIs 96 s.2.1)]) (Rw := Rw) h zGood (ev_Se_holds_3 l D cA (wy 3) (pt 3) tx ts hd hs nx s.1 bg en ht t0 (hz t0 (by simp)) t1 (hz t1 (by simp)) t2 (hz t2 (by simp)) bm bl bt fm fl ft) v_Se_holds l_Sw_raiseAlerts_57 d_Sw_raiseAlerts_57 rfl ⟨by decide, by decide⟩ ⟨by decide, by decide⟩ [(0, 60), (1, 61), (2, 62), (3, 63), (4, 64), (5, 65), (6, 66), (8, 80), (9, 81), (10, 82), (11, 130), (12, 131), (20, 132), (21, 133), (22, 134)] rfl rfl rfl (fun q hq => hcells q hq) rfl rfl (Nat.le_of_ble_eq_true rfl) ?_
          rintro _ _ ⟨rfl, bm1, bl1, bt1, fm1, fl1, ft1, rfl⟩
          rw [hin]
          refine ⟨[(0, cSe), (1, cMk 3 4 bt1), (3, cBs bm1), (4, cIs 81 bl1), (2, cMk 5 6 ft1), (5, cBs fm1), (6, cIs 81 fl1), (8, cSm 9 10 ts hs nx s.1 bg en), (9, cIs 80 tx), (10, cIs 32 hd)], _, _, rfl, rfl, rfl, ?_⟩
          refine mj_ifeqB h.1 (tgt := 87) d_Sw_raiseAlerts_60 (by decide) (fun h6 => ?_) (fun h6 => ?_)
          · have hno : ¬ (g 3 = true ∧ raP 3 s.1) := fun z => h6 (by have h8 := ((hg 3).mp z.1).2; rw [hos] at h8; exact h8)
            refine mj_blk h.1 b_Sw_raiseAlerts_87 rfl trivial ?_
            refine mj_lpk [0, 2, 3, 4, 5] rfl ?_
            have hp2 := hp
            unfold raF at hp2
            rw [if_neg (show ¬ (g 3 = true ∧ raP 3 s.1) from hno)] at hp2
            rw [show (nI 3 + 1 : Int32) = nI 4 from rfl]
            exact ra_4 l D cA st rc x y f1 cpt f3 spt f5 lv tx ts hd hs nx bg en wa rl wy pt os Rw g hrc ht hR hg h k (by omega) _ hs9 hp2 _ _ _ _ _ _
          · have hyes : g 3 = true ∧ raP 3 s.1 := ⟨(hg 3).mpr ⟨h4, by rw [hos]; exact h6⟩, h5⟩
            refine mj_blk h.1 b_Sw_raiseAlerts_63 rfl trivial ?_
            refine mj_callV h zGood (ev_Sm_setRaised l D cA _ _ _ _ _ _ _ _ _) v_Sm_setRaised l_Sw_raiseAlerts_66 d_Sw_raiseAlerts_66 rfl ⟨by decide, by decide⟩ ⟨by decide, by decide⟩ [(0, 80), (1, 81), (2, 82)] rfl rfl rfl rfl rfl rfl (Nat.le_of_ble_eq_true rfl) ?_
            rintro _ _ ⟨rfl, rfl⟩
            refine mj_k rfl rfl ?_
            refine mj_blk h.1 b_Sw_raiseAlerts_69 rfl trivial ?_
            refine mj_callV h zGood (ev_Sm_size l D cA _ _ _ _ _ _ _ _) v_Sm_size l_Sw_raiseAlerts_81 d_Sw_raiseAlerts_81 rfl ⟨by decide, by decide⟩ ⟨by decide, by decide⟩ [(0, 80), (1, 81), (2, 82)] rfl rfl rfl rfl rfl rfl (Nat.le_of_ble_eq_true rfl) ?_
            rintro _ _ ⟨rfl, rfl⟩
            refine mj_k rfl rfl ?_
            refine mj_callV h zGood (ev_Al_add l D cA _ _ _ (aNx s.2.2.2) (aNx_ok hs9).1 (aNx_ok hs9).2 _ _ _ _) v_Al_add l_Sw_raiseAlerts_84 d_Sw_raiseAlerts_84 rfl ⟨by decide, by decide⟩ ⟨by decide, by decide⟩ [(0, 70), (1, 71)] rfl rfl rfl rfl rfl rfl (Nat.le_of_ble_eq_true rfl) ?_
            rintro _ _ ⟨rfl, rfl⟩
            rw [show nI (aNx s.2.2.2) = nI (aNx s.2.2.2 + 1) - 1 from (nI_pred _).symm]
            refine mj_k rfl rfl ?_
            refine mj_blk h.1 b_Sw_raiseAlerts_87 rfl trivial ?_
            refine mj_lpk [0, 2, 3, 4, 5] rfl ?_
            have hp2 := hp
            unfold raF at hp2
            rw [if_pos (show (g 3 = true ∧ raP 3 s.1) from hyes)] at hp2
            rw [show (nI 3 + 1 : Int32) = nI 4 from rfl]
            exact ra_4 l D cA st rc x y f1 cpt f3 spt f5 lv tx ts hd hs nx bg en wa rl wy pt os Rw g hrc ht hR hg h k (by omega) _ (Nat.succ_le_of_lt (aNx_ok hs9).1) hp2 _ _ _ _ _ _
        · rw [hos] at hlen
          exact absurd hlen (by simp)
      · refine mj_blk h.1 b_Sw_raiseAlerts_47 rfl trivial ?_
        refine mj_blk h.1 b_Sw_raiseAlerts_87 rfl trivial ?_
        refine mj_lpk [0, 2, 3, 4, 5] rfl ?_
        have hp2 := hp
        unfold raF at hp2
        rw [if_neg (show ¬ (g 3 = true ∧ raP 3 s.1) from fun z => g2 z.2)] at hp2
        rw [show (nI 3 + 1 : Int32) = nI 4 from rfl]
        exact ra_4 l D cA st rc x y f1 cpt f3 spt f5 lv tx ts hd hs nx bg en wa rl wy pt os Rw g hrc ht hR hg h k (by omega) _ hs9 hp2 _ _ _ _ _ _
set_option maxRecDepth 100000 in
set_option maxHeartbeats 8000000 in
theorem ra_2 {X : mj_X} {post : mj_R} (hrc : rc ≤ 6) (ht : ts ≤ 80) (hR : raR rc rl wy pt os tx ts Rw) (hg : ∀ r, g r = true ↔ raG wy pt os wa spt tx ts r) (h : mj_E zG X l D cA m_Sw_raiseAlerts 4 160 0 0 (fun _ => True) post) (k : Nat) (hk : 2 + k = rc) (s : raT) (hs9 : s.2.2.2 ≤ 24) (hp : (∀ (bm bl : Nat → Int32) (bt : Int32) (fm fl : Nat → Int32) (ft : Int32), post none ([(50, cSw st rc), (60, .inr (7, [.ref 61, .ref 62])), (61, cMk 63 64 bt), (63, cBs bm), (64, cIs 81 bl), (62, cMk 65 66 ft), (65, cBs fm), (66, cIs 81 fl), (90, cFl x y f1 cpt f3 spt f5 lv), (80, cSm 81 82 ts hs nx (raF g cpt wa ts k 2 s).1 bg en), (81, cIs 80 tx), (82, cIs 32 hd), (70, .inr (0, [.ref 71, .int (raF g cpt wa ts k 2 s).2.2.1, .int (nI (raF g cpt wa ts k 2 s).2.2.2 - 1)])), (71, cIs 96 (raF g cpt wa ts k 2 s).2.1)] ++ Rw))) (bm bl : Nat → Int32) (bt : Int32) (fm fl : Nat → Int32) (ft : Int32) : mj_W zG X 0 0 3 [(4, .int (nI 2)), (0, .ref 50), (1, .ref 90), (2, .ref 80), (3, .int wa)] [] ([(50, cSw st rc), (60, .inr (7, [.ref 61, .ref 62])), (61, cMk 63 64 bt), (63, cBs bm), (64, cIs 81 bl), (62, cMk 65 66 ft), (65, cBs fm), (66, cIs 81 fl), (90, cFl x y f1 cpt f3 spt f5 lv), (80, cSm 81 82 ts hs nx s.1 bg en), (81, cIs 80 tx), (82, cIs 32 hd), (70, .inr (0, [.ref 71, .int s.2.2.1, .int (nI s.2.2.2 - 1)])), (71, cIs 96 s.2.1)] ++ Rw) := by
  cases k with
  | zero => exact ra_x l D cA st rc x y f1 cpt f3 spt f5 lv tx ts hd hs nx bg en wa Rw hrc h 2 (by omega) s hp bm bl bt fm fl ft
  | succ k =>
    have hlt : 2 < rc := by omega
    obtain ⟨hcells, hget, hlen, hz, hin0⟩ := hR.2 2 hlt
    have hrule : (120, cRu 121 (wy 2) (pt 2) (os 2).length) ∈ Rw := rC_rule hlen hcells
    refine mj_blk h.1 b_Sw_raiseAlerts_3 rfl trivial ?_
    refine mj_icge h.1 (tgt := 93) d_Sw_raiseAlerts_9 (by decide) (fun h1 => absurd ((nI_leI (by omega) (by decide)).mp h1) (by omega)) (fun h1 => ?_)
    refine mj_blk h.1 b_Sw_raiseAlerts_12 rfl trivial ?_
    refine mj_callVx (wa := [(50, cSw st rc)]) (wb := [(53, cRs rl)]) (wf := [(50, cSw st rc), (60, .inr (7, [.ref 61, .ref 62])), (61, cMk 63 64 bt), (63, cBs bm), (64, cIs 81 bl), (62, cMk 65 66 ft), (65, cBs fm), (66, cIs 81 fl), (90, cFl x y f1 cpt f3 spt f5 lv), (80, cSm 81 82 ts hs nx s.1 bg en), (81, cIs 80 tx), (82, cIs 32 hd), (70, .inr (0, [.ref 71, .int s.2.2.1, .int (nI s.2.2.2 - 1)])), (71, cIs 96 s.2.1)]) (Rw := Rw) h zGood (ev_Sw_ruleAt l D cA st rc hrc rl 2 120 hlt hget) v_Sw_ruleAt l_Sw_raiseAlerts_15 d_Sw_raiseAlerts_15 rfl ⟨by decide, by decide⟩ ⟨by decide, by decide⟩ [] rfl rfl rfl (fun q hq => by rw [mj_wr0] at hq; rw [List.mem_singleton.mp hq]; exact hR.1) rfl rfl (Nat.le_of_ble_eq_true rfl) ?_
    rintro _ _ ⟨rfl, rfl⟩
    refine ⟨[(50, cSw st rc)], _, _, rfl, rfl, rfl, ?_⟩
    refine mj_blk h.1 b_Sw_raiseAlerts_18 rfl trivial ?_
    refine mj_ifnull_r h.1 d_Sw_raiseAlerts_22 ?_
    refine mj_blk h.1 b_Sw_raiseAlerts_25 rfl trivial ?_
    refine mj_callVx (wa := []) (wb := [(0, cRu 1 (wy 2) (pt 2) (os 2).length)]) (wf := [(50, cSw st rc), (60, .inr (7, [.ref 61, .ref 62])), (61, cMk 63 64 bt), (63, cBs bm), (64, cIs 81 bl), (62, cMk 65 66 ft), (65, cBs fm), (66, cIs 81 fl), (90, cFl x y f1 cpt f3 spt f5 lv), (80, cSm 81 82 ts hs nx s.1 bg en), (81, cIs 80 tx), (82, cIs 32 hd), (70, .inr (0, [.ref 71, .int s.2.2.1, .int (nI s.2.2.2 - 1)])), (71, cIs 96 s.2.1)]) (Rw := Rw) h zGood (ev_Ru_isFor l D cA (wy 2) (pt 2) (os 2).length wa spt) v_Ru_isFor l_Sw_raiseAlerts_32 d_Sw_raiseAlerts_32 rfl ⟨by decide, by decide⟩ ⟨by decide, by decide⟩ [(0, 120), (1, 121)] rfl rfl rfl (fun q hq => by rw [List.mem_singleton.mp hq]; exact hrule) rfl rfl (Nat.le_of_ble_eq_true rfl) ?_
    rintro _ _ ⟨rfl, rfl⟩
    refine ⟨[], _, _, rfl, rfl, rfl, ?_⟩
    first | refine mj_ifeqB h.1 (tgt := 87) d_Sw_raiseAlerts_35 (by decide) (fun g1 => ?_) (fun g1 => ?_) | refine mj_ifeq h.1 (tgt := 87) d_Sw_raiseAlerts_35 (by decide) (fun g1 => ?_) (fun g1 => ?_)
    · refine mj_blk h.1 b_Sw_raiseAlerts_87 rfl trivial ?_
      refine mj_lpk [0, 2, 3, 4, 5] rfl ?_
      have hp2 := hp
      unfold raF at hp2
      rw [if_neg (show ¬ (g 2 = true ∧ raP 2 s.1) from fun z => g1 ((hg 2).mp z.1).1)] at hp2
      rw [show (nI 2 + 1 : Int32) = nI 3 from rfl]
      exact ra_3 l D cA st rc x y f1 cpt f3 spt f5 lv tx ts hd hs nx bg en wa rl wy pt os Rw g hrc ht hR hg h k (by omega) _ hs9 hp2 _ _ _ _ _ _
    · refine mj_blk h.1 b_Sw_raiseAlerts_38 rfl trivial ?_
      refine mj_callV h zGood (ev_Sm_hasRaised l D cA _ _ _ _ _ _ _ _ _) v_Sm_hasRaised l_Sw_raiseAlerts_41 d_Sw_raiseAlerts_41 rfl ⟨by decide, by decide⟩ ⟨by decide, by decide⟩ [(0, 80), (1, 81), (2, 82)] rfl rfl rfl rfl rfl rfl (Nat.le_of_ble_eq_true rfl) ?_
      rintro _ _ ⟨rfl, rfl⟩
      refine mj_k rfl rfl ?_
      first | refine mj_ifeqB h.1 (tgt := 50) d_Sw_raiseAlerts_44 (by decide) (fun g2 => ?_) (fun g2 => ?_) | refine mj_ifeq h.1 (tgt := 50) d_Sw_raiseAlerts_44 (by decide) (fun g2 => ?_) (fun g2 => ?_)
      · have h4 := g1
        have h5 : raP 2 s.1 := Decidable.not_not.mp g2
        refine mj_blk h.1 b_Sw_raiseAlerts_50 rfl trivial ?_
        rcases hos : os 2 with _ | ⟨t0, _ | ⟨t1, _ | ⟨t2, _ | ⟨t3, os9⟩⟩⟩⟩
        · rw [hos] at hcells hz hin0
          refine mj_callVx (wa := [(0, cSe), (1, cMk 3 4 bt), (3, cBs bm), (4, cIs 81 bl), (2, cMk 5 6 ft), (5, cBs fm), (6, cIs 81 fl), (8, cSm 9 10 ts hs nx s.1 bg en), (9, cIs 80 tx), (10, cIs 32 hd)]) (wb := [(11, cRu 12 (wy 2) (pt 2) 0), (12, cOs [none, none, none])]) (wf := [(50, cSw st rc), (60, .inr (7, [.ref 61, .ref 62])), (61, cMk 63 64 bt), (63, cBs bm), (64, cIs 81 bl), (62, cMk 65 66 ft), (65, cBs fm), (66, cIs 81 fl), (90, cFl x y f1 cpt f3 spt f5 lv), (80, cSm 81 82 ts hs nx s.1 bg en), (81, cIs 80 tx), (82, cIs 32 hd), (70, .inr (0, [.ref 71, .int s.2.2.1, .int (nI s.2.2.2 - 1)])), (71, cIs 96 s.2.1)]) (Rw := Rw) h zGood (ev_Se_holds_0 l D cA (wy 2) (pt 2) tx ts hd hs nx s.1 bg en ht bm bl bt fm fl ft) v_Se_holds l_Sw_raiseAlerts_57 d_Sw_raiseAlerts_57 rfl ⟨by decide, by decide⟩ ⟨by decide, by decide⟩ [(0, 60), (1, 61), (2, 62), (3, 63), (4, 64), (5, 65), (6, 66), (8, 80), (9, 81), (10, 82), (11, 120), (12, 121), (20, 122), (21, 123), (22, 124)] rfl rfl rfl (fun q hq => hcells q hq) rfl rfl (Nat.le_of_ble_eq_true rfl) ?_
          rintro _ _ ⟨rfl, bm1, bl1, bt1, fm1, fl1, ft1, rfl⟩
          refine ⟨[(0, cSe), (1, cMk 3 4 bt1), (3, cBs bm1), (4, cIs 81 bl1), (2, cMk 5 6 ft1), (5, cBs fm1), (6, cIs 81 fl1), (8, cSm 9 10 ts hs nx s.1 bg en), (9, cIs 80 tx), (10, cIs 32 hd)], _, _, rfl, rfl, rfl, ?_⟩
          refine mj_ifeq0 h.1 (tgt := 87) d_Sw_raiseAlerts_60 (by decide) ?_
          have hno : ¬ (g 2 = true ∧ raP 2 s.1) := fun z => by
            have h8 := ((hg 2).mp z.1).2
            rw [hos] at h8
            cases h8
          refine mj_blk h.1 b_Sw_raiseAlerts_87 rfl trivial ?_
          refine mj_lpk [0, 2, 3, 4, 5] rfl ?_
          have hp2 := hp
          unfold raF at hp2
          rw [if_neg (show ¬ (g 2 = true ∧ raP 2 s.1) from hno)] at hp2
          rw [show (nI 2 + 1 : Int32) = nI 3 from rfl]
          exact ra_3 l D cA st rc x y f1 cpt f3 spt f5 lv tx ts hd hs nx bg en wa rl wy pt os Rw g hrc ht hR hg h k (by omega) _ hs9 hp2 _ _ _ _ _ _
        · rw [hos] at hcells hz hin0
          have hin := hin0 bm bl fm fl (List.cons_ne_nil _ _)
          refine mj_callVx (wa := [(0, cSe), (1, cMk 3 4 bt), (3, cBs bm), (4, cIs 81 bl), (2, cMk 5 6 ft), (5, cBs fm), (6, cIs 81 fl), (8, cSm 9 10 ts hs nx s.1 bg en), (9, cIs 80 tx), (10, cIs 32 hd)]) (wb := [(11, cRu 12 (wy 2) (pt 2) 1), (12, cOs [some 20, none, none]), (20, cOt t0)]) (wf := [(50, cSw st rc), (60, .inr (7, [.ref 61, .ref 62])), (61, cMk 63 64 bt), (63, cBs bm), (64, cIs 81 bl), (62, cMk 65 66 ft), (65, cBs fm), (66, cIs 81 fl), (90, cFl x y f1 cpt f3 spt f5 lv), (80, cSm 81 82 ts hs nx s.1 bg en), (81, cIs 80 tx), (82, cIs 32 hd), (70, .inr (0, [.ref 71, .int s.2.2.1, .int (nI s.2.2.2 - 1)])), (71, cIs 96 s.2.1)]) (Rw := Rw) h zGood (ev_Se_holds_1 l D cA (wy 2) (pt 2) tx ts hd hs nx s.1 bg en ht t0 (hz t0 (by simp)) bm bl bt fm fl ft) v_Se_holds l_Sw_raiseAlerts_57 d_Sw_raiseAlerts_57 rfl ⟨by decide, by decide⟩ ⟨by decide, by decide⟩ [(0, 60), (1, 61), (2, 62), (3, 63), (4, 64), (5, 65), (6, 66), (8, 80), (9, 81), (10, 82), (11, 120), (12, 121), (20, 122), (21, 123), (22, 124)] rfl rfl rfl (fun q hq => hcells q hq) rfl rfl (Nat.le_of_ble_eq_true rfl) ?_
          rintro _ _ ⟨rfl, bm1, bl1, bt1, fm1, fl1, ft1, rfl⟩
          rw [hin]
          refine ⟨[(0, cSe), (1, cMk 3 4 bt1), (3, cBs bm1), (4, cIs 81 bl1), (2, cMk 5 6 ft1), (5, cBs fm1), (6, cIs 81 fl1), (8, cSm 9 10 ts hs nx s.1 bg en), (9, cIs 80 tx), (10, cIs 32 hd)], _, _, rfl, rfl, rfl, ?_⟩
          refine mj_ifeqB h.1 (tgt := 87) d_Sw_raiseAlerts_60 (by decide) (fun h6 => ?_) (fun h6 => ?_)
          · have hno : ¬ (g 2 = true ∧ raP 2 s.1) := fun z => h6 (by have h8 := ((hg 2).mp z.1).2; rw [hos] at h8; exact h8)
            refine mj_blk h.1 b_Sw_raiseAlerts_87 rfl trivial ?_
            refine mj_lpk [0, 2, 3, 4, 5] rfl ?_
            have hp2 := hp
            unfold raF at hp2
            rw [if_neg (show ¬ (g 2 = true ∧ raP 2 s.1) from hno)] at hp2
            rw [show (nI 2 + 1 : Int32) = nI 3 from rfl]
            exact ra_3 l D cA st rc x y f1 cpt f3 spt f5 lv tx ts hd hs nx bg en wa rl wy pt os Rw g hrc ht hR hg h k (by omega) _ hs9 hp2 _ _ _ _ _ _
          · have hyes : g 2 = true ∧ raP 2 s.1 := ⟨(hg 2).mpr ⟨h4, by rw [hos]; exact h6⟩, h5⟩
            refine mj_blk h.1 b_Sw_raiseAlerts_63 rfl trivial ?_
            refine mj_callV h zGood (ev_Sm_setRaised l D cA _ _ _ _ _ _ _ _ _) v_Sm_setRaised l_Sw_raiseAlerts_66 d_Sw_raiseAlerts_66 rfl ⟨by decide, by decide⟩ ⟨by decide, by decide⟩ [(0, 80), (1, 81), (2, 82)] rfl rfl rfl rfl rfl rfl (Nat.le_of_ble_eq_true rfl) ?_
            rintro _ _ ⟨rfl, rfl⟩
            refine mj_k rfl rfl ?_
            refine mj_blk h.1 b_Sw_raiseAlerts_69 rfl trivial ?_
            refine mj_callV h zGood (ev_Sm_size l D cA _ _ _ _ _ _ _ _) v_Sm_size l_Sw_raiseAlerts_81 d_Sw_raiseAlerts_81 rfl ⟨by decide, by decide⟩ ⟨by decide, by decide⟩ [(0, 80), (1, 81), (2, 82)] rfl rfl rfl rfl rfl rfl (Nat.le_of_ble_eq_true rfl) ?_
            rintro _ _ ⟨rfl, rfl⟩
            refine mj_k rfl rfl ?_
            refine mj_callV h zGood (ev_Al_add l D cA _ _ _ (aNx s.2.2.2) (aNx_ok hs9).1 (aNx_ok hs9).2 _ _ _ _) v_Al_add l_Sw_raiseAlerts_84 d_Sw_raiseAlerts_84 rfl ⟨by decide, by decide⟩ ⟨by decide, by decide⟩ [(0, 70), (1, 71)] rfl rfl rfl rfl rfl rfl (Nat.le_of_ble_eq_true rfl) ?_
            rintro _ _ ⟨rfl, rfl⟩
            rw [show nI (aNx s.2.2.2) = nI (aNx s.2.2.2 + 1) - 1 from (nI_pred _).symm]
            refine mj_k rfl rfl ?_
            refine mj_blk h.1 b_Sw_raiseAlerts_87 rfl trivial ?_
            refine mj_lpk [0, 2, 3, 4, 5] rfl ?_
            have hp2 := hp
            unfold raF at hp2
            rw [if_pos (show (g 2 = true ∧ raP 2 s.1) from hyes)] at hp2
            rw [show (nI 2 + 1 : Int32) = nI 3 from rfl]
            exact ra_3 l D cA st rc x y f1 cpt f3 spt f5 lv tx ts hd hs nx bg en wa rl wy pt os Rw g hrc ht hR hg h k (by omega) _ (Nat.succ_le_of_lt (aNx_ok hs9).1) hp2 _ _ _ _ _ _
        · rw [hos] at hcells hz hin0
          have hin := hin0 bm bl fm fl (List.cons_ne_nil _ _)
          refine mj_callVx (wa := [(0, cSe), (1, cMk 3 4 bt), (3, cBs bm), (4, cIs 81 bl), (2, cMk 5 6 ft), (5, cBs fm), (6, cIs 81 fl), (8, cSm 9 10 ts hs nx s.1 bg en), (9, cIs 80 tx), (10, cIs 32 hd)]) (wb := [(11, cRu 12 (wy 2) (pt 2) 2), (12, cOs [some 20, some 21, none]), (20, cOt t0), (21, cOt t1)]) (wf := [(50, cSw st rc), (60, .inr (7, [.ref 61, .ref 62])), (61, cMk 63 64 bt), (63, cBs bm), (64, cIs 81 bl), (62, cMk 65 66 ft), (65, cBs fm), (66, cIs 81 fl), (90, cFl x y f1 cpt f3 spt f5 lv), (80, cSm 81 82 ts hs nx s.1 bg en), (81, cIs 80 tx), (82, cIs 32 hd), (70, .inr (0, [.ref 71, .int s.2.2.1, .int (nI s.2.2.2 - 1)])), (71, cIs 96 s.2.1)]) (Rw := Rw) h zGood (ev_Se_holds_2 l D cA (wy 2) (pt 2) tx ts hd hs nx s.1 bg en ht t0 (hz t0 (by simp)) t1 (hz t1 (by simp)) bm bl bt fm fl ft) v_Se_holds l_Sw_raiseAlerts_57 d_Sw_raiseAlerts_57 rfl ⟨by decide, by decide⟩ ⟨by decide, by decide⟩ [(0, 60), (1, 61), (2, 62), (3, 63), (4, 64), (5, 65), (6, 66), (8, 80), (9, 81), (10, 82), (11, 120), (12, 121), (20, 122), (21, 123), (22, 124)] rfl rfl rfl (fun q hq => hcells q hq) rfl rfl (Nat.le_of_ble_eq_true rfl) ?_
          rintro _ _ ⟨rfl, bm1, bl1, bt1, fm1, fl1, ft1, rfl⟩
          rw [hin]
          refine ⟨[(0, cSe), (1, cMk 3 4 bt1), (3, cBs bm1), (4, cIs 81 bl1), (2, cMk 5 6 ft1), (5, cBs fm1), (6, cIs 81 fl1), (8, cSm 9 10 ts hs nx s.1 bg en), (9, cIs 80 tx), (10, cIs 32 hd)], _, _, rfl, rfl, rfl, ?_⟩
          refine mj_ifeqB h.1 (tgt := 87) d_Sw_raiseAlerts_60 (by decide) (fun h6 => ?_) (fun h6 => ?_)
          · have hno : ¬ (g 2 = true ∧ raP 2 s.1) := fun z => h6 (by have h8 := ((hg 2).mp z.1).2; rw [hos] at h8; exact h8)
            refine mj_blk h.1 b_Sw_raiseAlerts_87 rfl trivial ?_
            refine mj_lpk [0, 2, 3, 4, 5] rfl ?_
            have hp2 := hp
            unfold raF at hp2
            rw [if_neg (show ¬ (g 2 = true ∧ raP 2 s.1) from hno)] at hp2
            rw [show (nI 2 + 1 : Int32) = nI 3 from rfl]
            exact ra_3 l D cA st rc x y f1 cpt f3 spt f5 lv tx ts hd hs nx bg en wa rl wy pt os Rw g hrc ht hR hg h k (by omega) _ hs9 hp2 _ _ _ _ _ _
          · have hyes : g 2 = true ∧ raP 2 s.1 := ⟨(hg 2).mpr ⟨h4, by rw [hos]; exact h6⟩, h5⟩
            refine mj_blk h.1 b_Sw_raiseAlerts_63 rfl trivial ?_
            refine mj_callV h zGood (ev_Sm_setRaised l D cA _ _ _ _ _ _ _ _ _) v_Sm_setRaised l_Sw_raiseAlerts_66 d_Sw_raiseAlerts_66 rfl ⟨by decide, by decide⟩ ⟨by decide, by decide⟩ [(0, 80), (1, 81), (2, 82)] rfl rfl rfl rfl rfl rfl (Nat.le_of_ble_eq_true rfl) ?_
            rintro _ _ ⟨rfl, rfl⟩
            refine mj_k rfl rfl ?_
            refine mj_blk h.1 b_Sw_raiseAlerts_69 rfl trivial ?_
            refine mj_callV h zGood (ev_Sm_size l D cA _ _ _ _ _ _ _ _) v_Sm_size l_Sw_raiseAlerts_81 d_Sw_raiseAlerts_81 rfl ⟨by decide, by decide⟩ ⟨by decide, by decide⟩ [(0, 80), (1, 81), (2, 82)] rfl rfl rfl rfl rfl rfl (Nat.le_of_ble_eq_true rfl) ?_
            rintro _ _ ⟨rfl, rfl⟩
            refine mj_k rfl rfl ?_
            refine mj_callV h zGood (ev_Al_add l D cA _ _ _ (aNx s.2.2.2) (aNx_ok hs9).1 (aNx_ok hs9).2 _ _ _ _) v_Al_add l_Sw_raiseAlerts_84 d_Sw_raiseAlerts_84 rfl ⟨by decide, by decide⟩ ⟨by decide, by decide⟩ [(0, 70), (1, 71)] rfl rfl rfl rfl rfl rfl (Nat.le_of_ble_eq_true rfl) ?_
            rintro _ _ ⟨rfl, rfl⟩
            rw [show nI (aNx s.2.2.2) = nI (aNx s.2.2.2 + 1) - 1 from (nI_pred _).symm]
            refine mj_k rfl rfl ?_
            refine mj_blk h.1 b_Sw_raiseAlerts_87 rfl trivial ?_
            refine mj_lpk [0, 2, 3, 4, 5] rfl ?_
            have hp2 := hp
            unfold raF at hp2
            rw [if_pos (show (g 2 = true ∧ raP 2 s.1) from hyes)] at hp2
            rw [show (nI 2 + 1 : Int32) = nI 3 from rfl]
            exact ra_3 l D cA st rc x y f1 cpt f3 spt f5 lv tx ts hd hs nx bg en wa rl wy pt os Rw g hrc ht hR hg h k (by omega) _ (Nat.succ_le_of_lt (aNx_ok hs9).1) hp2 _ _ _ _ _ _
        · rw [hos] at hcells hz hin0
          have hin := hin0 bm bl fm fl (List.cons_ne_nil _ _)
          refine mj_callVx (wa := [(0, cSe), (1, cMk 3 4 bt), (3, cBs bm), (4, cIs 81 bl), (2, cMk 5 6 ft), (5, cBs fm), (6, cIs 81 fl), (8, cSm 9 10 ts hs nx s.1 bg en), (9, cIs 80 tx), (10, cIs 32 hd)]) (wb := [(11, cRu 12 (wy 2) (pt 2) 3), (12, cOs [some 20, some 21, some 22]), (20, cOt t0), (21, cOt t1), (22, cOt t2)]) (wf := [(50, cSw st rc), (60, .inr (7, [.ref 61, .ref 62])), (61, cMk 63 64 bt), (63, cBs bm), (64, cIs 81 bl), (62, cMk 65 66 ft), (65, cBs fm), (66, cIs 81 fl), (90, cFl x y f1 cpt f3 spt f5 lv), (80, cSm 81 82 ts hs nx s.1 bg en), (81, cIs 80 tx), (82, cIs 32 hd), (70, .inr (0, [.ref 71, .int s.2.2.1, .int (nI s.2.2.2 - 1)])), (71, cIs 96 s.2.1)]) (Rw := Rw) h zGood (ev_Se_holds_3 l D cA (wy 2) (pt 2) tx ts hd hs nx s.1 bg en ht t0 (hz t0 (by simp)) t1 (hz t1 (by simp)) t2 (hz t2 (by simp)) bm bl bt fm fl ft) v_Se_holds l_Sw_raiseAlerts_57 d_Sw_raiseAlerts_57 rfl ⟨by decide, by decide⟩ ⟨by decide, by decide⟩ [(0, 60), (1, 61), (2, 62), (3, 63), (4, 64), (5, 65), (6, 66), (8, 80), (9, 81), (10, 82), (11, 120), (12, 121), (20, 122), (21, 123), (22, 124)] rfl rfl rfl (fun q hq => hcells q hq) rfl rfl (Nat.le_of_ble_eq_true rfl) ?_
          rintro _ _ ⟨rfl, bm1, bl1, bt1, fm1, fl1, ft1, rfl⟩
          rw [hin]
          refine ⟨[(0, cSe), (1, cMk 3 4 bt1), (3, cBs bm1), (4, cIs 81 bl1), (2, cMk 5 6 ft1), (5, cBs fm1), (6, cIs 81 fl1), (8, cSm 9 10 ts hs nx s.1 bg en), (9, cIs 80 tx), (10, cIs 32 hd)], _, _, rfl, rfl, rfl, ?_⟩
          refine mj_ifeqB h.1 (tgt := 87) d_Sw_raiseAlerts_60 (by decide) (fun h6 => ?_) (fun h6 => ?_)
          · have hno : ¬ (g 2 = true ∧ raP 2 s.1) := fun z => h6 (by have h8 := ((hg 2).mp z.1).2; rw [hos] at h8; exact h8)
            refine mj_blk h.1 b_Sw_raiseAlerts_87 rfl trivial ?_
            refine mj_lpk [0, 2, 3, 4, 5] rfl ?_
            have hp2 := hp
            unfold raF at hp2
            rw [if_neg (show ¬ (g 2 = true ∧ raP 2 s.1) from hno)] at hp2
            rw [show (nI 2 + 1 : Int32) = nI 3 from rfl]
            exact ra_3 l D cA st rc x y f1 cpt f3 spt f5 lv tx ts hd hs nx bg en wa rl wy pt os Rw g hrc ht hR hg h k (by omega) _ hs9 hp2 _ _ _ _ _ _
          · have hyes : g 2 = true ∧ raP 2 s.1 := ⟨(hg 2).mpr ⟨h4, by rw [hos]; exact h6⟩, h5⟩
            refine mj_blk h.1 b_Sw_raiseAlerts_63 rfl trivial ?_
            refine mj_callV h zGood (ev_Sm_setRaised l D cA _ _ _ _ _ _ _ _ _) v_Sm_setRaised l_Sw_raiseAlerts_66 d_Sw_raiseAlerts_66 rfl ⟨by decide, by decide⟩ ⟨by decide, by decide⟩ [(0, 80), (1, 81), (2, 82)] rfl rfl rfl rfl rfl rfl (Nat.le_of_ble_eq_true rfl) ?_
            rintro _ _ ⟨rfl, rfl⟩
            refine mj_k rfl rfl ?_
            refine mj_blk h.1 b_Sw_raiseAlerts_69 rfl trivial ?_
            refine mj_callV h zGood (ev_Sm_size l D cA _ _ _ _ _ _ _ _) v_Sm_size l_Sw_raiseAlerts_81 d_Sw_raiseAlerts_81 rfl ⟨by decide, by decide⟩ ⟨by decide, by decide⟩ [(0, 80), (1, 81), (2, 82)] rfl rfl rfl rfl rfl rfl (Nat.le_of_ble_eq_true rfl) ?_
            rintro _ _ ⟨rfl, rfl⟩
            refine mj_k rfl rfl ?_
            refine mj_callV h zGood (ev_Al_add l D cA _ _ _ (aNx s.2.2.2) (aNx_ok hs9).1 (aNx_ok hs9).2 _ _ _ _) v_Al_add l_Sw_raiseAlerts_84 d_Sw_raiseAlerts_84 rfl ⟨by decide, by decide⟩ ⟨by decide, by decide⟩ [(0, 70), (1, 71)] rfl rfl rfl rfl rfl rfl (Nat.le_of_ble_eq_true rfl) ?_
            rintro _ _ ⟨rfl, rfl⟩
            rw [show nI (aNx s.2.2.2) = nI (aNx s.2.2.2 + 1) - 1 from (nI_pred _).symm]
            refine mj_k rfl rfl ?_
            refine mj_blk h.1 b_Sw_raiseAlerts_87 rfl trivial ?_
            refine mj_lpk [0, 2, 3, 4, 5] rfl ?_
            have hp2 := hp
            unfold raF at hp2
            rw [if_pos (show (g 2 = true ∧ raP 2 s.1) from hyes)] at hp2
            rw [show (nI 2 + 1 : Int32) = nI 3 from rfl]
            exact ra_3 l D cA st rc x y f1 cpt f3 spt f5 lv tx ts hd hs nx bg en wa rl wy pt os Rw g hrc ht hR hg h k (by omega) _ (Nat.succ_le_of_lt (aNx_ok hs9).1) hp2 _ _ _ _ _ _
        · rw [hos] at hlen
          exact absurd hlen (by simp)
      · refine mj_blk h.1 b_Sw_raiseAlerts_47 rfl trivial ?_
        refine mj_blk h.1 b_Sw_raiseAlerts_87 rfl trivial ?_
        refine mj_lpk [0, 2, 3, 4, 5] rfl ?_
        have hp2 := hp
        unfold raF at hp2
        rw [if_neg (show ¬ (g 2 = true ∧ raP 2 s.1) from fun z => g2 z.2)] at hp2
        rw [show (nI 2 + 1 : Int32) = nI 3 from rfl]
        exact ra_3 l D cA st rc x y f1 cpt f3 spt f5 lv tx ts hd hs nx bg en wa rl wy pt os Rw g hrc ht hR hg h k (by omega) _ hs9 hp2 _ _ _ _ _ _
set_option maxRecDepth 100000 in
set_option maxHeartbeats 8000000 in
theorem ra_1 {X : mj_X} {post : mj_R} (hrc : rc ≤ 6) (ht : ts ≤ 80) (hR : raR rc rl wy pt os tx ts Rw) (hg : ∀ r, g r = true ↔ raG wy pt os wa spt tx ts r) (h : mj_E zG X l D cA m_Sw_raiseAlerts 4 160 0 0 (fun _ => True) post) (k : Nat) (hk : 1 + k = rc) (s : raT) (hs9 : s.2.2.2 ≤ 24) (hp : (∀ (bm bl : Nat → Int32) (bt : Int32) (fm fl : Nat → Int32) (ft : Int32), post none ([(50, cSw st rc), (60, .inr (7, [.ref 61, .ref 62])), (61, cMk 63 64 bt), (63, cBs bm), (64, cIs 81 bl), (62, cMk 65 66 ft), (65, cBs fm), (66, cIs 81 fl), (90, cFl x y f1 cpt f3 spt f5 lv), (80, cSm 81 82 ts hs nx (raF g cpt wa ts k 1 s).1 bg en), (81, cIs 80 tx), (82, cIs 32 hd), (70, .inr (0, [.ref 71, .int (raF g cpt wa ts k 1 s).2.2.1, .int (nI (raF g cpt wa ts k 1 s).2.2.2 - 1)])), (71, cIs 96 (raF g cpt wa ts k 1 s).2.1)] ++ Rw))) (bm bl : Nat → Int32) (bt : Int32) (fm fl : Nat → Int32) (ft : Int32) : mj_W zG X 0 0 3 [(4, .int (nI 1)), (0, .ref 50), (1, .ref 90), (2, .ref 80), (3, .int wa)] [] ([(50, cSw st rc), (60, .inr (7, [.ref 61, .ref 62])), (61, cMk 63 64 bt), (63, cBs bm), (64, cIs 81 bl), (62, cMk 65 66 ft), (65, cBs fm), (66, cIs 81 fl), (90, cFl x y f1 cpt f3 spt f5 lv), (80, cSm 81 82 ts hs nx s.1 bg en), (81, cIs 80 tx), (82, cIs 32 hd), (70, .inr (0, [.ref 71, .int s.2.2.1, .int (nI s.2.2.2 - 1)])), (71, cIs 96 s.2.1)] ++ Rw) := by
  cases k with
  | zero => exact ra_x l D cA st rc x y f1 cpt f3 spt f5 lv tx ts hd hs nx bg en wa Rw hrc h 1 (by omega) s hp bm bl bt fm fl ft
  | succ k =>
    have hlt : 1 < rc := by omega
    obtain ⟨hcells, hget, hlen, hz, hin0⟩ := hR.2 1 hlt
    have hrule : (110, cRu 111 (wy 1) (pt 1) (os 1).length) ∈ Rw := rC_rule hlen hcells
    refine mj_blk h.1 b_Sw_raiseAlerts_3 rfl trivial ?_
    refine mj_icge h.1 (tgt := 93) d_Sw_raiseAlerts_9 (by decide) (fun h1 => absurd ((nI_leI (by omega) (by decide)).mp h1) (by omega)) (fun h1 => ?_)
    refine mj_blk h.1 b_Sw_raiseAlerts_12 rfl trivial ?_
    refine mj_callVx (wa := [(50, cSw st rc)]) (wb := [(53, cRs rl)]) (wf := [(50, cSw st rc), (60, .inr (7, [.ref 61, .ref 62])), (61, cMk 63 64 bt), (63, cBs bm), (64, cIs 81 bl), (62, cMk 65 66 ft), (65, cBs fm), (66, cIs 81 fl), (90, cFl x y f1 cpt f3 spt f5 lv), (80, cSm 81 82 ts hs nx s.1 bg en), (81, cIs 80 tx), (82, cIs 32 hd), (70, .inr (0, [.ref 71, .int s.2.2.1, .int (nI s.2.2.2 - 1)])), (71, cIs 96 s.2.1)]) (Rw := Rw) h zGood (ev_Sw_ruleAt l D cA st rc hrc rl 1 110 hlt hget) v_Sw_ruleAt l_Sw_raiseAlerts_15 d_Sw_raiseAlerts_15 rfl ⟨by decide, by decide⟩ ⟨by decide, by decide⟩ [] rfl rfl rfl (fun q hq => by rw [mj_wr0] at hq; rw [List.mem_singleton.mp hq]; exact hR.1) rfl rfl (Nat.le_of_ble_eq_true rfl) ?_
    rintro _ _ ⟨rfl, rfl⟩
    refine ⟨[(50, cSw st rc)], _, _, rfl, rfl, rfl, ?_⟩
    refine mj_blk h.1 b_Sw_raiseAlerts_18 rfl trivial ?_
    refine mj_ifnull_r h.1 d_Sw_raiseAlerts_22 ?_
    refine mj_blk h.1 b_Sw_raiseAlerts_25 rfl trivial ?_
    refine mj_callVx (wa := []) (wb := [(0, cRu 1 (wy 1) (pt 1) (os 1).length)]) (wf := [(50, cSw st rc), (60, .inr (7, [.ref 61, .ref 62])), (61, cMk 63 64 bt), (63, cBs bm), (64, cIs 81 bl), (62, cMk 65 66 ft), (65, cBs fm), (66, cIs 81 fl), (90, cFl x y f1 cpt f3 spt f5 lv), (80, cSm 81 82 ts hs nx s.1 bg en), (81, cIs 80 tx), (82, cIs 32 hd), (70, .inr (0, [.ref 71, .int s.2.2.1, .int (nI s.2.2.2 - 1)])), (71, cIs 96 s.2.1)]) (Rw := Rw) h zGood (ev_Ru_isFor l D cA (wy 1) (pt 1) (os 1).length wa spt) v_Ru_isFor l_Sw_raiseAlerts_32 d_Sw_raiseAlerts_32 rfl ⟨by decide, by decide⟩ ⟨by decide, by decide⟩ [(0, 110), (1, 111)] rfl rfl rfl (fun q hq => by rw [List.mem_singleton.mp hq]; exact hrule) rfl rfl (Nat.le_of_ble_eq_true rfl) ?_
    rintro _ _ ⟨rfl, rfl⟩
    refine ⟨[], _, _, rfl, rfl, rfl, ?_⟩
    first | refine mj_ifeqB h.1 (tgt := 87) d_Sw_raiseAlerts_35 (by decide) (fun g1 => ?_) (fun g1 => ?_) | refine mj_ifeq h.1 (tgt := 87) d_Sw_raiseAlerts_35 (by decide) (fun g1 => ?_) (fun g1 => ?_)
    · refine mj_blk h.1 b_Sw_raiseAlerts_87 rfl trivial ?_
      refine mj_lpk [0, 2, 3, 4, 5] rfl ?_
      have hp2 := hp
      unfold raF at hp2
      rw [if_neg (show ¬ (g 1 = true ∧ raP 1 s.1) from fun z => g1 ((hg 1).mp z.1).1)] at hp2
      rw [show (nI 1 + 1 : Int32) = nI 2 from rfl]
      exact ra_2 l D cA st rc x y f1 cpt f3 spt f5 lv tx ts hd hs nx bg en wa rl wy pt os Rw g hrc ht hR hg h k (by omega) _ hs9 hp2 _ _ _ _ _ _
    · refine mj_blk h.1 b_Sw_raiseAlerts_38 rfl trivial ?_
      refine mj_callV h zGood (ev_Sm_hasRaised l D cA _ _ _ _ _ _ _ _ _) v_Sm_hasRaised l_Sw_raiseAlerts_41 d_Sw_raiseAlerts_41 rfl ⟨by decide, by decide⟩ ⟨by decide, by decide⟩ [(0, 80), (1, 81), (2, 82)] rfl rfl rfl rfl rfl rfl (Nat.le_of_ble_eq_true rfl) ?_
      rintro _ _ ⟨rfl, rfl⟩
      refine mj_k rfl rfl ?_
      first | refine mj_ifeqB h.1 (tgt := 50) d_Sw_raiseAlerts_44 (by decide) (fun g2 => ?_) (fun g2 => ?_) | refine mj_ifeq h.1 (tgt := 50) d_Sw_raiseAlerts_44 (by decide) (fun g2 => ?_) (fun g2 => ?_)
      · have h4 := g1
        have h5 : raP 1 s.1 := Decidable.not_not.mp g2
        refine mj_blk h.1 b_Sw_raiseAlerts_50 rfl trivial ?_
        rcases hos : os 1 with _ | ⟨t0, _ | ⟨t1, _ | ⟨t2, _ | ⟨t3, os9⟩⟩⟩⟩
        · rw [hos] at hcells hz hin0
          refine mj_callVx (wa := [(0, cSe), (1, cMk 3 4 bt), (3, cBs bm), (4, cIs 81 bl), (2, cMk 5 6 ft), (5, cBs fm), (6, cIs 81 fl), (8, cSm 9 10 ts hs nx s.1 bg en), (9, cIs 80 tx), (10, cIs 32 hd)]) (wb := [(11, cRu 12 (wy 1) (pt 1) 0), (12, cOs [none, none, none])]) (wf := [(50, cSw st rc), (60, .inr (7, [.ref 61, .ref 62])), (61, cMk 63 64 bt), (63, cBs bm), (64, cIs 81 bl), (62, cMk 65 66 ft), (65, cBs fm), (66, cIs 81 fl), (90, cFl x y f1 cpt f3 spt f5 lv), (80, cSm 81 82 ts hs nx s.1 bg en), (81, cIs 80 tx), (82, cIs 32 hd), (70, .inr (0, [.ref 71, .int s.2.2.1, .int (nI s.2.2.2 - 1)])), (71, cIs 96 s.2.1)]) (Rw := Rw) h zGood (ev_Se_holds_0 l D cA (wy 1) (pt 1) tx ts hd hs nx s.1 bg en ht bm bl bt fm fl ft) v_Se_holds l_Sw_raiseAlerts_57 d_Sw_raiseAlerts_57 rfl ⟨by decide, by decide⟩ ⟨by decide, by decide⟩ [(0, 60), (1, 61), (2, 62), (3, 63), (4, 64), (5, 65), (6, 66), (8, 80), (9, 81), (10, 82), (11, 110), (12, 111), (20, 112), (21, 113), (22, 114)] rfl rfl rfl (fun q hq => hcells q hq) rfl rfl (Nat.le_of_ble_eq_true rfl) ?_
          rintro _ _ ⟨rfl, bm1, bl1, bt1, fm1, fl1, ft1, rfl⟩
          refine ⟨[(0, cSe), (1, cMk 3 4 bt1), (3, cBs bm1), (4, cIs 81 bl1), (2, cMk 5 6 ft1), (5, cBs fm1), (6, cIs 81 fl1), (8, cSm 9 10 ts hs nx s.1 bg en), (9, cIs 80 tx), (10, cIs 32 hd)], _, _, rfl, rfl, rfl, ?_⟩
          refine mj_ifeq0 h.1 (tgt := 87) d_Sw_raiseAlerts_60 (by decide) ?_
          have hno : ¬ (g 1 = true ∧ raP 1 s.1) := fun z => by
            have h8 := ((hg 1).mp z.1).2
            rw [hos] at h8
            cases h8
          refine mj_blk h.1 b_Sw_raiseAlerts_87 rfl trivial ?_
          refine mj_lpk [0, 2, 3, 4, 5] rfl ?_
          have hp2 := hp
          unfold raF at hp2
          rw [if_neg (show ¬ (g 1 = true ∧ raP 1 s.1) from hno)] at hp2
          rw [show (nI 1 + 1 : Int32) = nI 2 from rfl]
          exact ra_2 l D cA st rc x y f1 cpt f3 spt f5 lv tx ts hd hs nx bg en wa rl wy pt os Rw g hrc ht hR hg h k (by omega) _ hs9 hp2 _ _ _ _ _ _
        · rw [hos] at hcells hz hin0
          have hin := hin0 bm bl fm fl (List.cons_ne_nil _ _)
          refine mj_callVx (wa := [(0, cSe), (1, cMk 3 4 bt), (3, cBs bm), (4, cIs 81 bl), (2, cMk 5 6 ft), (5, cBs fm), (6, cIs 81 fl), (8, cSm 9 10 ts hs nx s.1 bg en), (9, cIs 80 tx), (10, cIs 32 hd)]) (wb := [(11, cRu 12 (wy 1) (pt 1) 1), (12, cOs [some 20, none, none]), (20, cOt t0)]) (wf := [(50, cSw st rc), (60, .inr (7, [.ref 61, .ref 62])), (61, cMk 63 64 bt), (63, cBs bm), (64, cIs 81 bl), (62, cMk 65 66 ft), (65, cBs fm), (66, cIs 81 fl), (90, cFl x y f1 cpt f3 spt f5 lv), (80, cSm 81 82 ts hs nx s.1 bg en), (81, cIs 80 tx), (82, cIs 32 hd), (70, .inr (0, [.ref 71, .int s.2.2.1, .int (nI s.2.2.2 - 1)])), (71, cIs 96 s.2.1)]) (Rw := Rw) h zGood (ev_Se_holds_1 l D cA (wy 1) (pt 1) tx ts hd hs nx s.1 bg en ht t0 (hz t0 (by simp)) bm bl bt fm fl ft) v_Se_holds l_Sw_raiseAlerts_57 d_Sw_raiseAlerts_57 rfl ⟨by decide, by decide⟩ ⟨by decide, by decide⟩ [(0, 60), (1, 61), (2, 62), (3, 63), (4, 64), (5, 65), (6, 66), (8, 80), (9, 81), (10, 82), (11, 110), (12, 111), (20, 112), (21, 113), (22, 114)] rfl rfl rfl (fun q hq => hcells q hq) rfl rfl (Nat.le_of_ble_eq_true rfl) ?_
          rintro _ _ ⟨rfl, bm1, bl1, bt1, fm1, fl1, ft1, rfl⟩
          rw [hin]
          refine ⟨[(0, cSe), (1, cMk 3 4 bt1), (3, cBs bm1), (4, cIs 81 bl1), (2, cMk 5 6 ft1), (5, cBs fm1), (6, cIs 81 fl1), (8, cSm 9 10 ts hs nx s.1 bg en), (9, cIs 80 tx), (10, cIs 32 hd)], _, _, rfl, rfl, rfl, ?_⟩
          refine mj_ifeqB h.1 (tgt := 87) d_Sw_raiseAlerts_60 (by decide) (fun h6 => ?_) (fun h6 => ?_)
          · have hno : ¬ (g 1 = true ∧ raP 1 s.1) := fun z => h6 (by have h8 := ((hg 1).mp z.1).2; rw [hos] at h8; exact h8)
            refine mj_blk h.1 b_Sw_raiseAlerts_87 rfl trivial ?_
            refine mj_lpk [0, 2, 3, 4, 5] rfl ?_
            have hp2 := hp
            unfold raF at hp2
            rw [if_neg (show ¬ (g 1 = true ∧ raP 1 s.1) from hno)] at hp2
            rw [show (nI 1 + 1 : Int32) = nI 2 from rfl]
            exact ra_2 l D cA st rc x y f1 cpt f3 spt f5 lv tx ts hd hs nx bg en wa rl wy pt os Rw g hrc ht hR hg h k (by omega) _ hs9 hp2 _ _ _ _ _ _
          · have hyes : g 1 = true ∧ raP 1 s.1 := ⟨(hg 1).mpr ⟨h4, by rw [hos]; exact h6⟩, h5⟩
            refine mj_blk h.1 b_Sw_raiseAlerts_63 rfl trivial ?_
            refine mj_callV h zGood (ev_Sm_setRaised l D cA _ _ _ _ _ _ _ _ _) v_Sm_setRaised l_Sw_raiseAlerts_66 d_Sw_raiseAlerts_66 rfl ⟨by decide, by decide⟩ ⟨by decide, by decide⟩ [(0, 80), (1, 81), (2, 82)] rfl rfl rfl rfl rfl rfl (Nat.le_of_ble_eq_true rfl) ?_
            rintro _ _ ⟨rfl, rfl⟩
            refine mj_k rfl rfl ?_
            refine mj_blk h.1 b_Sw_raiseAlerts_69 rfl trivial ?_
            refine mj_callV h zGood (ev_Sm_size l D cA _ _ _ _ _ _ _ _) v_Sm_size l_Sw_raiseAlerts_81 d_Sw_raiseAlerts_81 rfl ⟨by decide, by decide⟩ ⟨by decide, by decide⟩ [(0, 80), (1, 81), (2, 82)] rfl rfl rfl rfl rfl rfl (Nat.le_of_ble_eq_true rfl) ?_
            rintro _ _ ⟨rfl, rfl⟩
            refine mj_k rfl rfl ?_
            refine mj_callV h zGood (ev_Al_add l D cA _ _ _ (aNx s.2.2.2) (aNx_ok hs9).1 (aNx_ok hs9).2 _ _ _ _) v_Al_add l_Sw_raiseAlerts_84 d_Sw_raiseAlerts_84 rfl ⟨by decide, by decide⟩ ⟨by decide, by decide⟩ [(0, 70), (1, 71)] rfl rfl rfl rfl rfl rfl (Nat.le_of_ble_eq_true rfl) ?_
            rintro _ _ ⟨rfl, rfl⟩
            rw [show nI (aNx s.2.2.2) = nI (aNx s.2.2.2 + 1) - 1 from (nI_pred _).symm]
            refine mj_k rfl rfl ?_
            refine mj_blk h.1 b_Sw_raiseAlerts_87 rfl trivial ?_
            refine mj_lpk [0, 2, 3, 4, 5] rfl ?_
            have hp2 := hp
            unfold raF at hp2
            rw [if_pos (show (g 1 = true ∧ raP 1 s.1) from hyes)] at hp2
            rw [show (nI 1 + 1 : Int32) = nI 2 from rfl]
            exact ra_2 l D cA st rc x y f1 cpt f3 spt f5 lv tx ts hd hs nx bg en wa rl wy pt os Rw g hrc ht hR hg h k (by omega) _ (Nat.succ_le_of_lt (aNx_ok hs9).1) hp2 _ _ _ _ _ _
        · rw [hos] at hcells hz hin0
          have hin := hin0 bm bl fm fl (List.cons_ne_nil _ _)
          refine mj_callVx (wa := [(0, cSe), (1, cMk 3 4 bt), (3, cBs bm), (4, cIs 81 bl), (2, cMk 5 6 ft), (5, cBs fm), (6, cIs 81 fl), (8, cSm 9 10 ts hs nx s.1 bg en), (9, cIs 80 tx), (10, cIs 32 hd)]) (wb := [(11, cRu 12 (wy 1) (pt 1) 2), (12, cOs [some 20, some 21, none]), (20, cOt t0), (21, cOt t1)]) (wf := [(50, cSw st rc), (60, .inr (7, [.ref 61, .ref 62])), (61, cMk 63 64 bt), (63, cBs bm), (64, cIs 81 bl), (62, cMk 65 66 ft), (65, cBs fm), (66, cIs 81 fl), (90, cFl x y f1 cpt f3 spt f5 lv), (80, cSm 81 82 ts hs nx s.1 bg en), (81, cIs 80 tx), (82, cIs 32 hd), (70, .inr (0, [.ref 71, .int s.2.2.1, .int (nI s.2.2.2 - 1)])), (71, cIs 96 s.2.1)]) (Rw := Rw) h zGood (ev_Se_holds_2 l D cA (wy 1) (pt 1) tx ts hd hs nx s.1 bg en ht t0 (hz t0 (by simp)) t1 (hz t1 (by simp)) bm bl bt fm fl ft) v_Se_holds l_Sw_raiseAlerts_57 d_Sw_raiseAlerts_57 rfl ⟨by decide, by decide⟩ ⟨by decide, by decide⟩ [(0, 60), (1, 61), (2, 62), (3, 63), (4, 64), (5, 65), (6, 66), (8, 80), (9, 81), (10, 82), (11, 110), (12, 111), (20, 112), (21, 113), (22, 114)] rfl rfl rfl (fun q hq => hcells q hq) rfl rfl (Nat.le_of_ble_eq_true rfl) ?_
          rintro _ _ ⟨rfl, bm1, bl1, bt1, fm1, fl1, ft1, rfl⟩
          rw [hin]
          refine ⟨[(0, cSe), (1, cMk 3 4 bt1), (3, cBs bm1), (4, cIs 81 bl1), (2, cMk 5 6 ft1), (5, cBs fm1), (6, cIs 81 fl1), (8, cSm 9 10 ts hs nx s.1 bg en), (9, cIs 80 tx), (10, cIs 32 hd)], _, _, rfl, rfl, rfl, ?_⟩
          refine mj_ifeqB h.1 (tgt := 87) d_Sw_raiseAlerts_60 (by decide) (fun h6 => ?_) (fun h6 => ?_)
          · have hno : ¬ (g 1 = true ∧ raP 1 s.1) := fun z => h6 (by have h8 := ((hg 1).mp z.1).2; rw [hos] at h8; exact h8)
            refine mj_blk h.1 b_Sw_raiseAlerts_87 rfl trivial ?_
            refine mj_lpk [0, 2, 3, 4, 5] rfl ?_
            have hp2 := hp
            unfold raF at hp2
            rw [if_neg (show ¬ (g 1 = true ∧ raP 1 s.1) from hno)] at hp2
            rw [show (nI 1 + 1 : Int32) = nI 2 from rfl]
            exact ra_2 l D cA st rc x y f1 cpt f3 spt f5 lv tx ts hd hs nx bg en wa rl wy pt os Rw g hrc ht hR hg h k (by omega) _ hs9 hp2 _ _ _ _ _ _
          · have hyes : g 1 = true ∧ raP 1 s.1 := ⟨(hg 1).mpr ⟨h4, by rw [hos]; exact h6⟩, h5⟩
            refine mj_blk h.1 b_Sw_raiseAlerts_63 rfl trivial ?_
            refine mj_callV h zGood (ev_Sm_setRaised l D cA _ _ _ _ _ _ _ _ _) v_Sm_setRaised l_Sw_raiseAlerts_66 d_Sw_raiseAlerts_66 rfl ⟨by decide, by decide⟩ ⟨by decide, by decide⟩ [(0, 80), (1, 81), (2, 82)] rfl rfl rfl rfl rfl rfl (Nat.le_of_ble_eq_true rfl) ?_
            rintro _ _ ⟨rfl, rfl⟩
            refine mj_k rfl rfl ?_
            refine mj_blk h.1 b_Sw_raiseAlerts_69 rfl trivial ?_
            refine mj_callV h zGood (ev_Sm_size l D cA _ _ _ _ _ _ _ _) v_Sm_size l_Sw_raiseAlerts_81 d_Sw_raiseAlerts_81 rfl ⟨by decide, by decide⟩ ⟨by decide, by decide⟩ [(0, 80), (1, 81), (2, 82)] rfl rfl rfl rfl rfl rfl (Nat.le_of_ble_eq_true rfl) ?_
            rintro _ _ ⟨rfl, rfl⟩
            refine mj_k rfl rfl ?_
            refine mj_callV h zGood (ev_Al_add l D cA _ _ _ (aNx s.2.2.2) (aNx_ok hs9).1 (aNx_ok hs9).2 _ _ _ _) v_Al_add l_Sw_raiseAlerts_84 d_Sw_raiseAlerts_84 rfl ⟨by decide, by decide⟩ ⟨by decide, by decide⟩ [(0, 70), (1, 71)] rfl rfl rfl rfl rfl rfl (Nat.le_of_ble_eq_true rfl) ?_
            rintro _ _ ⟨rfl, rfl⟩
            rw [show nI (aNx s.2.2.2) = nI (aNx s.2.2.2 + 1) - 1 from (nI_pred _).symm]
            refine mj_k rfl rfl ?_
            refine mj_blk h.1 b_Sw_raiseAlerts_87 rfl trivial ?_
            refine mj_lpk [0, 2, 3, 4, 5] rfl ?_
            have hp2 := hp
            unfold raF at hp2
            rw [if_pos (show (g 1 = true ∧ raP 1 s.1) from hyes)] at hp2
            rw [show (nI 1 + 1 : Int32) = nI 2 from rfl]
            exact ra_2 l D cA st rc x y f1 cpt f3 spt f5 lv tx ts hd hs nx bg en wa rl wy pt os Rw g hrc ht hR hg h k (by omega) _ (Nat.succ_le_of_lt (aNx_ok hs9).1) hp2 _ _ _ _ _ _
        · rw [hos] at hcells hz hin0
          have hin := hin0 bm bl fm fl (List.cons_ne_nil _ _)
          refine mj_callVx (wa := [(0, cSe), (1, cMk 3 4 bt), (3, cBs bm), (4, cIs 81 bl), (2, cMk 5 6 ft), (5, cBs fm), (6, cIs 81 fl), (8, cSm 9 10 ts hs nx s.1 bg en), (9, cIs 80 tx), (10, cIs 32 hd)]) (wb := [(11, cRu 12 (wy 1) (pt 1) 3), (12, cOs [some 20, some 21, some 22]), (20, cOt t0), (21, cOt t1), (22, cOt t2)]) (wf := [(50, cSw st rc), (60, .inr (7, [.ref 61, .ref 62])), (61, cMk 63 64 bt), (63, cBs bm), (64, cIs 81 bl), (62, cMk 65 66 ft), (65, cBs fm), (66, cIs 81 fl), (90, cFl x y f1 cpt f3 spt f5 lv), (80, cSm 81 82 ts hs nx s.1 bg en), (81, cIs 80 tx), (82, cIs 32 hd), (70, .inr (0, [.ref 71, .int s.2.2.1, .int (nI s.2.2.2 - 1)])), (71, cIs 96 s.2.1)]) (Rw := Rw) h zGood (ev_Se_holds_3 l D cA (wy 1) (pt 1) tx ts hd hs nx s.1 bg en ht t0 (hz t0 (by simp)) t1 (hz t1 (by simp)) t2 (hz t2 (by simp)) bm bl bt fm fl ft) v_Se_holds l_Sw_raiseAlerts_57 d_Sw_raiseAlerts_57 rfl ⟨by decide, by decide⟩ ⟨by decide, by decide⟩ [(0, 60), (1, 61), (2, 62), (3, 63), (4, 64), (5, 65), (6, 66), (8, 80), (9, 81), (10, 82), (11, 110), (12, 111), (20, 112), (21, 113), (22, 114)] rfl rfl rfl (fun q hq => hcells q hq) rfl rfl (Nat.le_of_ble_eq_true rfl) ?_
          rintro _ _ ⟨rfl, bm1, bl1, bt1, fm1, fl1, ft1, rfl⟩
          rw [hin]
          refine ⟨[(0, cSe), (1, cMk 3 4 bt1), (3, cBs bm1), (4, cIs 81 bl1), (2, cMk 5 6 ft1), (5, cBs fm1), (6, cIs 81 fl1), (8, cSm 9 10 ts hs nx s.1 bg en), (9, cIs 80 tx), (10, cIs 32 hd)], _, _, rfl, rfl, rfl, ?_⟩
          refine mj_ifeqB h.1 (tgt := 87) d_Sw_raiseAlerts_60 (by decide) (fun h6 => ?_) (fun h6 => ?_)
          · have hno : ¬ (g 1 = true ∧ raP 1 s.1) := fun z => h6 (by have h8 := ((hg 1).mp z.1).2; rw [hos] at h8; exact h8)
            refine mj_blk h.1 b_Sw_raiseAlerts_87 rfl trivial ?_
            refine mj_lpk [0, 2, 3, 4, 5] rfl ?_
            have hp2 := hp
            unfold raF at hp2
            rw [if_neg (show ¬ (g 1 = true ∧ raP 1 s.1) from hno)] at hp2
            rw [show (nI 1 + 1 : Int32) = nI 2 from rfl]
            exact ra_2 l D cA st rc x y f1 cpt f3 spt f5 lv tx ts hd hs nx bg en wa rl wy pt os Rw g hrc ht hR hg h k (by omega) _ hs9 hp2 _ _ _ _ _ _
          · have hyes : g 1 = true ∧ raP 1 s.1 := ⟨(hg 1).mpr ⟨h4, by rw [hos]; exact h6⟩, h5⟩
            refine mj_blk h.1 b_Sw_raiseAlerts_63 rfl trivial ?_
            refine mj_callV h zGood (ev_Sm_setRaised l D cA _ _ _ _ _ _ _ _ _) v_Sm_setRaised l_Sw_raiseAlerts_66 d_Sw_raiseAlerts_66 rfl ⟨by decide, by decide⟩ ⟨by decide, by decide⟩ [(0, 80), (1, 81), (2, 82)] rfl rfl rfl rfl rfl rfl (Nat.le_of_ble_eq_true rfl) ?_
            rintro _ _ ⟨rfl, rfl⟩
            refine mj_k rfl rfl ?_
            refine mj_blk h.1 b_Sw_raiseAlerts_69 rfl trivial ?_
            refine mj_callV h zGood (ev_Sm_size l D cA _ _ _ _ _ _ _ _) v_Sm_size l_Sw_raiseAlerts_81 d_Sw_raiseAlerts_81 rfl ⟨by decide, by decide⟩ ⟨by decide, by decide⟩ [(0, 80), (1, 81), (2, 82)] rfl rfl rfl rfl rfl rfl (Nat.le_of_ble_eq_true rfl) ?_
            rintro _ _ ⟨rfl, rfl⟩
            refine mj_k rfl rfl ?_
            refine mj_callV h zGood (ev_Al_add l D cA _ _ _ (aNx s.2.2.2) (aNx_ok hs9).1 (aNx_ok hs9).2 _ _ _ _) v_Al_add l_Sw_raiseAlerts_84 d_Sw_raiseAlerts_84 rfl ⟨by decide, by decide⟩ ⟨by decide, by decide⟩ [(0, 70), (1, 71)] rfl rfl rfl rfl rfl rfl (Nat.le_of_ble_eq_true rfl) ?_
            rintro _ _ ⟨rfl, rfl⟩
            rw [show nI (aNx s.2.2.2) = nI (aNx s.2.2.2 + 1) - 1 from (nI_pred _).symm]
            refine mj_k rfl rfl ?_
            refine mj_blk h.1 b_Sw_raiseAlerts_87 rfl trivial ?_
            refine mj_lpk [0, 2, 3, 4, 5] rfl ?_
            have hp2 := hp
            unfold raF at hp2
            rw [if_pos (show (g 1 = true ∧ raP 1 s.1) from hyes)] at hp2
            rw [show (nI 1 + 1 : Int32) = nI 2 from rfl]
            exact ra_2 l D cA st rc x y f1 cpt f3 spt f5 lv tx ts hd hs nx bg en wa rl wy pt os Rw g hrc ht hR hg h k (by omega) _ (Nat.succ_le_of_lt (aNx_ok hs9).1) hp2 _ _ _ _ _ _
        · rw [hos] at hlen
          exact absurd hlen (by simp)
      · refine mj_blk h.1 b_Sw_raiseAlerts_47 rfl trivial ?_
        refine mj_blk h.1 b_Sw_raiseAlerts_87 rfl trivial ?_
        refine mj_lpk [0, 2, 3, 4, 5] rfl ?_
        have hp2 := hp
        unfold raF at hp2
        rw [if_neg (show ¬ (g 1 = true ∧ raP 1 s.1) from fun z => g2 z.2)] at hp2
        rw [show (nI 1 + 1 : Int32) = nI 2 from rfl]
        exact ra_2 l D cA st rc x y f1 cpt f3 spt f5 lv tx ts hd hs nx bg en wa rl wy pt os Rw g hrc ht hR hg h k (by omega) _ hs9 hp2 _ _ _ _ _ _
set_option maxRecDepth 100000 in
set_option maxHeartbeats 8000000 in
theorem ra_0 {X : mj_X} {post : mj_R} (hrc : rc ≤ 6) (ht : ts ≤ 80) (hR : raR rc rl wy pt os tx ts Rw) (hg : ∀ r, g r = true ↔ raG wy pt os wa spt tx ts r) (h : mj_E zG X l D cA m_Sw_raiseAlerts 4 160 0 0 (fun _ => True) post) (k : Nat) (hk : 0 + k = rc) (s : raT) (hs9 : s.2.2.2 ≤ 24) (hp : (∀ (bm bl : Nat → Int32) (bt : Int32) (fm fl : Nat → Int32) (ft : Int32), post none ([(50, cSw st rc), (60, .inr (7, [.ref 61, .ref 62])), (61, cMk 63 64 bt), (63, cBs bm), (64, cIs 81 bl), (62, cMk 65 66 ft), (65, cBs fm), (66, cIs 81 fl), (90, cFl x y f1 cpt f3 spt f5 lv), (80, cSm 81 82 ts hs nx (raF g cpt wa ts k 0 s).1 bg en), (81, cIs 80 tx), (82, cIs 32 hd), (70, .inr (0, [.ref 71, .int (raF g cpt wa ts k 0 s).2.2.1, .int (nI (raF g cpt wa ts k 0 s).2.2.2 - 1)])), (71, cIs 96 (raF g cpt wa ts k 0 s).2.1)] ++ Rw))) (bm bl : Nat → Int32) (bt : Int32) (fm fl : Nat → Int32) (ft : Int32) : mj_W zG X 0 0 3 [(4, .int (nI 0)), (0, .ref 50), (1, .ref 90), (2, .ref 80), (3, .int wa)] [] ([(50, cSw st rc), (60, .inr (7, [.ref 61, .ref 62])), (61, cMk 63 64 bt), (63, cBs bm), (64, cIs 81 bl), (62, cMk 65 66 ft), (65, cBs fm), (66, cIs 81 fl), (90, cFl x y f1 cpt f3 spt f5 lv), (80, cSm 81 82 ts hs nx s.1 bg en), (81, cIs 80 tx), (82, cIs 32 hd), (70, .inr (0, [.ref 71, .int s.2.2.1, .int (nI s.2.2.2 - 1)])), (71, cIs 96 s.2.1)] ++ Rw) := by
  cases k with
  | zero => exact ra_x l D cA st rc x y f1 cpt f3 spt f5 lv tx ts hd hs nx bg en wa Rw hrc h 0 (by omega) s hp bm bl bt fm fl ft
  | succ k =>
    have hlt : 0 < rc := by omega
    obtain ⟨hcells, hget, hlen, hz, hin0⟩ := hR.2 0 hlt
    have hrule : (100, cRu 101 (wy 0) (pt 0) (os 0).length) ∈ Rw := rC_rule hlen hcells
    refine mj_blk h.1 b_Sw_raiseAlerts_3 rfl trivial ?_
    refine mj_icge h.1 (tgt := 93) d_Sw_raiseAlerts_9 (by decide) (fun h1 => absurd ((nI_leI (by omega) (by decide)).mp h1) (by omega)) (fun h1 => ?_)
    refine mj_blk h.1 b_Sw_raiseAlerts_12 rfl trivial ?_
    refine mj_callVx (wa := [(50, cSw st rc)]) (wb := [(53, cRs rl)]) (wf := [(50, cSw st rc), (60, .inr (7, [.ref 61, .ref 62])), (61, cMk 63 64 bt), (63, cBs bm), (64, cIs 81 bl), (62, cMk 65 66 ft), (65, cBs fm), (66, cIs 81 fl), (90, cFl x y f1 cpt f3 spt f5 lv), (80, cSm 81 82 ts hs nx s.1 bg en), (81, cIs 80 tx), (82, cIs 32 hd), (70, .inr (0, [.ref 71, .int s.2.2.1, .int (nI s.2.2.2 - 1)])), (71, cIs 96 s.2.1)]) (Rw := Rw) h zGood (ev_Sw_ruleAt l D cA st rc hrc rl 0 100 hlt hget) v_Sw_ruleAt l_Sw_raiseAlerts_15 d_Sw_raiseAlerts_15 rfl ⟨by decide, by decide⟩ ⟨by decide, by decide⟩ [] rfl rfl rfl (fun q hq => by rw [mj_wr0] at hq; rw [List.mem_singleton.mp hq]; exact hR.1) rfl rfl (Nat.le_of_ble_eq_true rfl) ?_
    rintro _ _ ⟨rfl, rfl⟩
    refine ⟨[(50, cSw st rc)], _, _, rfl, rfl, rfl, ?_⟩
    refine mj_blk h.1 b_Sw_raiseAlerts_18 rfl trivial ?_
    refine mj_ifnull_r h.1 d_Sw_raiseAlerts_22 ?_
    refine mj_blk h.1 b_Sw_raiseAlerts_25 rfl trivial ?_
    refine mj_callVx (wa := []) (wb := [(0, cRu 1 (wy 0) (pt 0) (os 0).length)]) (wf := [(50, cSw st rc), (60, .inr (7, [.ref 61, .ref 62])), (61, cMk 63 64 bt), (63, cBs bm), (64, cIs 81 bl), (62, cMk 65 66 ft), (65, cBs fm), (66, cIs 81 fl), (90, cFl x y f1 cpt f3 spt f5 lv), (80, cSm 81 82 ts hs nx s.1 bg en), (81, cIs 80 tx), (82, cIs 32 hd), (70, .inr (0, [.ref 71, .int s.2.2.1, .int (nI s.2.2.2 - 1)])), (71, cIs 96 s.2.1)]) (Rw := Rw) h zGood (ev_Ru_isFor l D cA (wy 0) (pt 0) (os 0).length wa spt) v_Ru_isFor l_Sw_raiseAlerts_32 d_Sw_raiseAlerts_32 rfl ⟨by decide, by decide⟩ ⟨by decide, by decide⟩ [(0, 100), (1, 101)] rfl rfl rfl (fun q hq => by rw [List.mem_singleton.mp hq]; exact hrule) rfl rfl (Nat.le_of_ble_eq_true rfl) ?_
    rintro _ _ ⟨rfl, rfl⟩
    refine ⟨[], _, _, rfl, rfl, rfl, ?_⟩
    first | refine mj_ifeqB h.1 (tgt := 87) d_Sw_raiseAlerts_35 (by decide) (fun g1 => ?_) (fun g1 => ?_) | refine mj_ifeq h.1 (tgt := 87) d_Sw_raiseAlerts_35 (by decide) (fun g1 => ?_) (fun g1 => ?_)
    · refine mj_blk h.1 b_Sw_raiseAlerts_87 rfl trivial ?_
      refine mj_lpk [0, 2, 3, 4, 5] rfl ?_
      have hp2 := hp
      unfold raF at hp2
      rw [if_neg (show ¬ (g 0 = true ∧ raP 0 s.1) from fun z => g1 ((hg 0).mp z.1).1)] at hp2
      rw [show (nI 0 + 1 : Int32) = nI 1 from rfl]
      exact ra_1 l D cA st rc x y f1 cpt f3 spt f5 lv tx ts hd hs nx bg en wa rl wy pt os Rw g hrc ht hR hg h k (by omega) _ hs9 hp2 _ _ _ _ _ _
    · refine mj_blk h.1 b_Sw_raiseAlerts_38 rfl trivial ?_
      refine mj_callV h zGood (ev_Sm_hasRaised l D cA _ _ _ _ _ _ _ _ _) v_Sm_hasRaised l_Sw_raiseAlerts_41 d_Sw_raiseAlerts_41 rfl ⟨by decide, by decide⟩ ⟨by decide, by decide⟩ [(0, 80), (1, 81), (2, 82)] rfl rfl rfl rfl rfl rfl (Nat.le_of_ble_eq_true rfl) ?_
      rintro _ _ ⟨rfl, rfl⟩
      refine mj_k rfl rfl ?_
      first | refine mj_ifeqB h.1 (tgt := 50) d_Sw_raiseAlerts_44 (by decide) (fun g2 => ?_) (fun g2 => ?_) | refine mj_ifeq h.1 (tgt := 50) d_Sw_raiseAlerts_44 (by decide) (fun g2 => ?_) (fun g2 => ?_)
      · have h4 := g1
        have h5 : raP 0 s.1 := Decidable.not_not.mp g2
        refine mj_blk h.1 b_Sw_raiseAlerts_50 rfl trivial ?_
        rcases hos : os 0 with _ | ⟨t0, _ | ⟨t1, _ | ⟨t2, _ | ⟨t3, os9⟩⟩⟩⟩
        · rw [hos] at hcells hz hin0
          refine mj_callVx (wa := [(0, cSe), (1, cMk 3 4 bt), (3, cBs bm), (4, cIs 81 bl), (2, cMk 5 6 ft), (5, cBs fm), (6, cIs 81 fl), (8, cSm 9 10 ts hs nx s.1 bg en), (9, cIs 80 tx), (10, cIs 32 hd)]) (wb := [(11, cRu 12 (wy 0) (pt 0) 0), (12, cOs [none, none, none])]) (wf := [(50, cSw st rc), (60, .inr (7, [.ref 61, .ref 62])), (61, cMk 63 64 bt), (63, cBs bm), (64, cIs 81 bl), (62, cMk 65 66 ft), (65, cBs fm), (66, cIs 81 fl), (90, cFl x y f1 cpt f3 spt f5 lv), (80, cSm 81 82 ts hs nx s.1 bg en), (81, cIs 80 tx), (82, cIs 32 hd), (70, .inr (0, [.ref 71, .int s.2.2.1, .int (nI s.2.2.2 - 1)])), (71, cIs 96 s.2.1)]) (Rw := Rw) h zGood (ev_Se_holds_0 l D cA (wy 0) (pt 0) tx ts hd hs nx s.1 bg en ht bm bl bt fm fl ft) v_Se_holds l_Sw_raiseAlerts_57 d_Sw_raiseAlerts_57 rfl ⟨by decide, by decide⟩ ⟨by decide, by decide⟩ [(0, 60), (1, 61), (2, 62), (3, 63), (4, 64), (5, 65), (6, 66), (8, 80), (9, 81), (10, 82), (11, 100), (12, 101), (20, 102), (21, 103), (22, 104)] rfl rfl rfl (fun q hq => hcells q hq) rfl rfl (Nat.le_of_ble_eq_true rfl) ?_
          rintro _ _ ⟨rfl, bm1, bl1, bt1, fm1, fl1, ft1, rfl⟩
          refine ⟨[(0, cSe), (1, cMk 3 4 bt1), (3, cBs bm1), (4, cIs 81 bl1), (2, cMk 5 6 ft1), (5, cBs fm1), (6, cIs 81 fl1), (8, cSm 9 10 ts hs nx s.1 bg en), (9, cIs 80 tx), (10, cIs 32 hd)], _, _, rfl, rfl, rfl, ?_⟩
          refine mj_ifeq0 h.1 (tgt := 87) d_Sw_raiseAlerts_60 (by decide) ?_
          have hno : ¬ (g 0 = true ∧ raP 0 s.1) := fun z => by
            have h8 := ((hg 0).mp z.1).2
            rw [hos] at h8
            cases h8
          refine mj_blk h.1 b_Sw_raiseAlerts_87 rfl trivial ?_
          refine mj_lpk [0, 2, 3, 4, 5] rfl ?_
          have hp2 := hp
          unfold raF at hp2
          rw [if_neg (show ¬ (g 0 = true ∧ raP 0 s.1) from hno)] at hp2
          rw [show (nI 0 + 1 : Int32) = nI 1 from rfl]
          exact ra_1 l D cA st rc x y f1 cpt f3 spt f5 lv tx ts hd hs nx bg en wa rl wy pt os Rw g hrc ht hR hg h k (by omega) _ hs9 hp2 _ _ _ _ _ _
        · rw [hos] at hcells hz hin0
          have hin := hin0 bm bl fm fl (List.cons_ne_nil _ _)
          refine mj_callVx (wa := [(0, cSe), (1, cMk 3 4 bt), (3, cBs bm), (4, cIs 81 bl), (2, cMk 5 6 ft), (5, cBs fm), (6, cIs 81 fl), (8, cSm 9 10 ts hs nx s.1 bg en), (9, cIs 80 tx), (10, cIs 32 hd)]) (wb := [(11, cRu 12 (wy 0) (pt 0) 1), (12, cOs [some 20, none, none]), (20, cOt t0)]) (wf := [(50, cSw st rc), (60, .inr (7, [.ref 61, .ref 62])), (61, cMk 63 64 bt), (63, cBs bm), (64, cIs 81 bl), (62, cMk 65 66 ft), (65, cBs fm), (66, cIs 81 fl), (90, cFl x y f1 cpt f3 spt f5 lv), (80, cSm 81 82 ts hs nx s.1 bg en), (81, cIs 80 tx), (82, cIs 32 hd), (70, .inr (0, [.ref 71, .int s.2.2.1, .int (nI s.2.2.2 - 1)])), (71, cIs 96 s.2.1)]) (Rw := Rw) h zGood (ev_Se_holds_1 l D cA (wy 0) (pt 0) tx ts hd hs nx s.1 bg en ht t0 (hz t0 (by simp)) bm bl bt fm fl ft) v_Se_holds l_Sw_raiseAlerts_57 d_Sw_raiseAlerts_57 rfl ⟨by decide, by decide⟩ ⟨by decide, by decide⟩ [(0, 60), (1, 61), (2, 62), (3, 63), (4, 64), (5, 65), (6, 66), (8, 80), (9, 81), (10, 82), (11, 100), (12, 101), (20, 102), (21, 103), (22, 104)] rfl rfl rfl (fun q hq => hcells q hq) rfl rfl (Nat.le_of_ble_eq_true rfl) ?_
          rintro _ _ ⟨rfl, bm1, bl1, bt1, fm1, fl1, ft1, rfl⟩
          rw [hin]
          refine ⟨[(0, cSe), (1, cMk 3 4 bt1), (3, cBs bm1), (4, cIs 81 bl1), (2, cMk 5 6 ft1), (5, cBs fm1), (6, cIs 81 fl1), (8, cSm 9 10 ts hs nx s.1 bg en), (9, cIs 80 tx), (10, cIs 32 hd)], _, _, rfl, rfl, rfl, ?_⟩
          refine mj_ifeqB h.1 (tgt := 87) d_Sw_raiseAlerts_60 (by decide) (fun h6 => ?_) (fun h6 => ?_)
          · have hno : ¬ (g 0 = true ∧ raP 0 s.1) := fun z => h6 (by have h8 := ((hg 0).mp z.1).2; rw [hos] at h8; exact h8)
            refine mj_blk h.1 b_Sw_raiseAlerts_87 rfl trivial ?_
            refine mj_lpk [0, 2, 3, 4, 5] rfl ?_
            have hp2 := hp
            unfold raF at hp2
            rw [if_neg (show ¬ (g 0 = true ∧ raP 0 s.1) from hno)] at hp2
            rw [show (nI 0 + 1 : Int32) = nI 1 from rfl]
            exact ra_1 l D cA st rc x y f1 cpt f3 spt f5 lv tx ts hd hs nx bg en wa rl wy pt os Rw g hrc ht hR hg h k (by omega) _ hs9 hp2 _ _ _ _ _ _
          · have hyes : g 0 = true ∧ raP 0 s.1 := ⟨(hg 0).mpr ⟨h4, by rw [hos]; exact h6⟩, h5⟩
            refine mj_blk h.1 b_Sw_raiseAlerts_63 rfl trivial ?_
            refine mj_callV h zGood (ev_Sm_setRaised l D cA _ _ _ _ _ _ _ _ _) v_Sm_setRaised l_Sw_raiseAlerts_66 d_Sw_raiseAlerts_66 rfl ⟨by decide, by decide⟩ ⟨by decide, by decide⟩ [(0, 80), (1, 81), (2, 82)] rfl rfl rfl rfl rfl rfl (Nat.le_of_ble_eq_true rfl) ?_
            rintro _ _ ⟨rfl, rfl⟩
            refine mj_k rfl rfl ?_
            refine mj_blk h.1 b_Sw_raiseAlerts_69 rfl trivial ?_
            refine mj_callV h zGood (ev_Sm_size l D cA _ _ _ _ _ _ _ _) v_Sm_size l_Sw_raiseAlerts_81 d_Sw_raiseAlerts_81 rfl ⟨by decide, by decide⟩ ⟨by decide, by decide⟩ [(0, 80), (1, 81), (2, 82)] rfl rfl rfl rfl rfl rfl (Nat.le_of_ble_eq_true rfl) ?_
            rintro _ _ ⟨rfl, rfl⟩
            refine mj_k rfl rfl ?_
            refine mj_callV h zGood (ev_Al_add l D cA _ _ _ (aNx s.2.2.2) (aNx_ok hs9).1 (aNx_ok hs9).2 _ _ _ _) v_Al_add l_Sw_raiseAlerts_84 d_Sw_raiseAlerts_84 rfl ⟨by decide, by decide⟩ ⟨by decide, by decide⟩ [(0, 70), (1, 71)] rfl rfl rfl rfl rfl rfl (Nat.le_of_ble_eq_true rfl) ?_
            rintro _ _ ⟨rfl, rfl⟩
            rw [show nI (aNx s.2.2.2) = nI (aNx s.2.2.2 + 1) - 1 from (nI_pred _).symm]
            refine mj_k rfl rfl ?_
            refine mj_blk h.1 b_Sw_raiseAlerts_87 rfl trivial ?_
            refine mj_lpk [0, 2, 3, 4, 5] rfl ?_
            have hp2 := hp
            unfold raF at hp2
            rw [if_pos (show (g 0 = true ∧ raP 0 s.1) from hyes)] at hp2
            rw [show (nI 0 + 1 : Int32) = nI 1 from rfl]
            exact ra_1 l D cA st rc x y f1 cpt f3 spt f5 lv tx ts hd hs nx bg en wa rl wy pt os Rw g hrc ht hR hg h k (by omega) _ (Nat.succ_le_of_lt (aNx_ok hs9).1) hp2 _ _ _ _ _ _
        · rw [hos] at hcells hz hin0
          have hin := hin0 bm bl fm fl (List.cons_ne_nil _ _)
          refine mj_callVx (wa := [(0, cSe), (1, cMk 3 4 bt), (3, cBs bm), (4, cIs 81 bl), (2, cMk 5 6 ft), (5, cBs fm), (6, cIs 81 fl), (8, cSm 9 10 ts hs nx s.1 bg en), (9, cIs 80 tx), (10, cIs 32 hd)]) (wb := [(11, cRu 12 (wy 0) (pt 0) 2), (12, cOs [some 20, some 21, none]), (20, cOt t0), (21, cOt t1)]) (wf := [(50, cSw st rc), (60, .inr (7, [.ref 61, .ref 62])), (61, cMk 63 64 bt), (63, cBs bm), (64, cIs 81 bl), (62, cMk 65 66 ft), (65, cBs fm), (66, cIs 81 fl), (90, cFl x y f1 cpt f3 spt f5 lv), (80, cSm 81 82 ts hs nx s.1 bg en), (81, cIs 80 tx), (82, cIs 32 hd), (70, .inr (0, [.ref 71, .int s.2.2.1, .int (nI s.2.2.2 - 1)])), (71, cIs 96 s.2.1)]) (Rw := Rw) h zGood (ev_Se_holds_2 l D cA (wy 0) (pt 0) tx ts hd hs nx s.1 bg en ht t0 (hz t0 (by simp)) t1 (hz t1 (by simp)) bm bl bt fm fl ft) v_Se_holds l_Sw_raiseAlerts_57 d_Sw_raiseAlerts_57 rfl ⟨by decide, by decide⟩ ⟨by decide, by decide⟩ [(0, 60), (1, 61), (2, 62), (3, 63), (4, 64), (5, 65), (6, 66), (8, 80), (9, 81), (10, 82), (11, 100), (12, 101), (20, 102), (21, 103), (22, 104)] rfl rfl rfl (fun q hq => hcells q hq) rfl rfl (Nat.le_of_ble_eq_true rfl) ?_
          rintro _ _ ⟨rfl, bm1, bl1, bt1, fm1, fl1, ft1, rfl⟩
          rw [hin]
          refine ⟨[(0, cSe), (1, cMk 3 4 bt1), (3, cBs bm1), (4, cIs 81 bl1), (2, cMk 5 6 ft1), (5, cBs fm1), (6, cIs 81 fl1), (8, cSm 9 10 ts hs nx s.1 bg en), (9, cIs 80 tx), (10, cIs 32 hd)], _, _, rfl, rfl, rfl, ?_⟩
          refine mj_ifeqB h.1 (tgt := 87) d_Sw_raiseAlerts_60 (by decide) (fun h6 => ?_) (fun h6 => ?_)
          · have hno : ¬ (g 0 = true ∧ raP 0 s.1) := fun z => h6 (by have h8 := ((hg 0).mp z.1).2; rw [hos] at h8; exact h8)
            refine mj_blk h.1 b_Sw_raiseAlerts_87 rfl trivial ?_
            refine mj_lpk [0, 2, 3, 4, 5] rfl ?_
            have hp2 := hp
            unfold raF at hp2
            rw [if_neg (show ¬ (g 0 = true ∧ raP 0 s.1) from hno)] at hp2
            rw [show (nI 0 + 1 : Int32) = nI 1 from rfl]
            exact ra_1 l D cA st rc x y f1 cpt f3 spt f5 lv tx ts hd hs nx bg en wa rl wy pt os Rw g hrc ht hR hg h k (by omega) _ hs9 hp2 _ _ _ _ _ _
          · have hyes : g 0 = true ∧ raP 0 s.1 := ⟨(hg 0).mpr ⟨h4, by rw [hos]; exact h6⟩, h5⟩
            refine mj_blk h.1 b_Sw_raiseAlerts_63 rfl trivial ?_
            refine mj_callV h zGood (ev_Sm_setRaised l D cA _ _ _ _ _ _ _ _ _) v_Sm_setRaised l_Sw_raiseAlerts_66 d_Sw_raiseAlerts_66 rfl ⟨by decide, by decide⟩ ⟨by decide, by decide⟩ [(0, 80), (1, 81), (2, 82)] rfl rfl rfl rfl rfl rfl (Nat.le_of_ble_eq_true rfl) ?_
            rintro _ _ ⟨rfl, rfl⟩
            refine mj_k rfl rfl ?_
            refine mj_blk h.1 b_Sw_raiseAlerts_69 rfl trivial ?_
            refine mj_callV h zGood (ev_Sm_size l D cA _ _ _ _ _ _ _ _) v_Sm_size l_Sw_raiseAlerts_81 d_Sw_raiseAlerts_81 rfl ⟨by decide, by decide⟩ ⟨by decide, by decide⟩ [(0, 80), (1, 81), (2, 82)] rfl rfl rfl rfl rfl rfl (Nat.le_of_ble_eq_true rfl) ?_
            rintro _ _ ⟨rfl, rfl⟩
            refine mj_k rfl rfl ?_
            refine mj_callV h zGood (ev_Al_add l D cA _ _ _ (aNx s.2.2.2) (aNx_ok hs9).1 (aNx_ok hs9).2 _ _ _ _) v_Al_add l_Sw_raiseAlerts_84 d_Sw_raiseAlerts_84 rfl ⟨by decide, by decide⟩ ⟨by decide, by decide⟩ [(0, 70), (1, 71)] rfl rfl rfl rfl rfl rfl (Nat.le_of_ble_eq_true rfl) ?_
            rintro _ _ ⟨rfl, rfl⟩
            rw [show nI (aNx s.2.2.2) = nI (aNx s.2.2.2 + 1) - 1 from (nI_pred _).symm]
            refine mj_k rfl rfl ?_
            refine mj_blk h.1 b_Sw_raiseAlerts_87 rfl trivial ?_
            refine mj_lpk [0, 2, 3, 4, 5] rfl ?_
            have hp2 := hp
            unfold raF at hp2
            rw [if_pos (show (g 0 = true ∧ raP 0 s.1) from hyes)] at hp2
            rw [show (nI 0 + 1 : Int32) = nI 1 from rfl]
            exact ra_1 l D cA st rc x y f1 cpt f3 spt f5 lv tx ts hd hs nx bg en wa rl wy pt os Rw g hrc ht hR hg h k (by omega) _ (Nat.succ_le_of_lt (aNx_ok hs9).1) hp2 _ _ _ _ _ _
        · rw [hos] at hcells hz hin0
          have hin := hin0 bm bl fm fl (List.cons_ne_nil _ _)
          refine mj_callVx (wa := [(0, cSe), (1, cMk 3 4 bt), (3, cBs bm), (4, cIs 81 bl), (2, cMk 5 6 ft), (5, cBs fm), (6, cIs 81 fl), (8, cSm 9 10 ts hs nx s.1 bg en), (9, cIs 80 tx), (10, cIs 32 hd)]) (wb := [(11, cRu 12 (wy 0) (pt 0) 3), (12, cOs [some 20, some 21, some 22]), (20, cOt t0), (21, cOt t1), (22, cOt t2)]) (wf := [(50, cSw st rc), (60, .inr (7, [.ref 61, .ref 62])), (61, cMk 63 64 bt), (63, cBs bm), (64, cIs 81 bl), (62, cMk 65 66 ft), (65, cBs fm), (66, cIs 81 fl), (90, cFl x y f1 cpt f3 spt f5 lv), (80, cSm 81 82 ts hs nx s.1 bg en), (81, cIs 80 tx), (82, cIs 32 hd), (70, .inr (0, [.ref 71, .int s.2.2.1, .int (nI s.2.2.2 - 1)])), (71, cIs 96 s.2.1)]) (Rw := Rw) h zGood (ev_Se_holds_3 l D cA (wy 0) (pt 0) tx ts hd hs nx s.1 bg en ht t0 (hz t0 (by simp)) t1 (hz t1 (by simp)) t2 (hz t2 (by simp)) bm bl bt fm fl ft) v_Se_holds l_Sw_raiseAlerts_57 d_Sw_raiseAlerts_57 rfl ⟨by decide, by decide⟩ ⟨by decide, by decide⟩ [(0, 60), (1, 61), (2, 62), (3, 63), (4, 64), (5, 65), (6, 66), (8, 80), (9, 81), (10, 82), (11, 100), (12, 101), (20, 102), (21, 103), (22, 104)] rfl rfl rfl (fun q hq => hcells q hq) rfl rfl (Nat.le_of_ble_eq_true rfl) ?_
          rintro _ _ ⟨rfl, bm1, bl1, bt1, fm1, fl1, ft1, rfl⟩
          rw [hin]
          refine ⟨[(0, cSe), (1, cMk 3 4 bt1), (3, cBs bm1), (4, cIs 81 bl1), (2, cMk 5 6 ft1), (5, cBs fm1), (6, cIs 81 fl1), (8, cSm 9 10 ts hs nx s.1 bg en), (9, cIs 80 tx), (10, cIs 32 hd)], _, _, rfl, rfl, rfl, ?_⟩
          refine mj_ifeqB h.1 (tgt := 87) d_Sw_raiseAlerts_60 (by decide) (fun h6 => ?_) (fun h6 => ?_)
          · have hno : ¬ (g 0 = true ∧ raP 0 s.1) := fun z => h6 (by have h8 := ((hg 0).mp z.1).2; rw [hos] at h8; exact h8)
            refine mj_blk h.1 b_Sw_raiseAlerts_87 rfl trivial ?_
            refine mj_lpk [0, 2, 3, 4, 5] rfl ?_
            have hp2 := hp
            unfold raF at hp2
            rw [if_neg (show ¬ (g 0 = true ∧ raP 0 s.1) from hno)] at hp2
            rw [show (nI 0 + 1 : Int32) = nI 1 from rfl]
            exact ra_1 l D cA st rc x y f1 cpt f3 spt f5 lv tx ts hd hs nx bg en wa rl wy pt os Rw g hrc ht hR hg h k (by omega) _ hs9 hp2 _ _ _ _ _ _
          · have hyes : g 0 = true ∧ raP 0 s.1 := ⟨(hg 0).mpr ⟨h4, by rw [hos]; exact h6⟩, h5⟩
            refine mj_blk h.1 b_Sw_raiseAlerts_63 rfl trivial ?_
            refine mj_callV h zGood (ev_Sm_setRaised l D cA _ _ _ _ _ _ _ _ _) v_Sm_setRaised l_Sw_raiseAlerts_66 d_Sw_raiseAlerts_66 rfl ⟨by decide, by decide⟩ ⟨by decide, by decide⟩ [(0, 80), (1, 81), (2, 82)] rfl rfl rfl rfl rfl rfl (Nat.le_of_ble_eq_true rfl) ?_
            rintro _ _ ⟨rfl, rfl⟩
            refine mj_k rfl rfl ?_
            refine mj_blk h.1 b_Sw_raiseAlerts_69 rfl trivial ?_
            refine mj_callV h zGood (ev_Sm_size l D cA _ _ _ _ _ _ _ _) v_Sm_size l_Sw_raiseAlerts_81 d_Sw_raiseAlerts_81 rfl ⟨by decide, by decide⟩ ⟨by decide, by decide⟩ [(0, 80), (1, 81), (2, 82)] rfl rfl rfl rfl rfl rfl (Nat.le_of_ble_eq_true rfl) ?_
            rintro _ _ ⟨rfl, rfl⟩
            refine mj_k rfl rfl ?_
            refine mj_callV h zGood (ev_Al_add l D cA _ _ _ (aNx s.2.2.2) (aNx_ok hs9).1 (aNx_ok hs9).2 _ _ _ _) v_Al_add l_Sw_raiseAlerts_84 d_Sw_raiseAlerts_84 rfl ⟨by decide, by decide⟩ ⟨by decide, by decide⟩ [(0, 70), (1, 71)] rfl rfl rfl rfl rfl rfl (Nat.le_of_ble_eq_true rfl) ?_
            rintro _ _ ⟨rfl, rfl⟩
            rw [show nI (aNx s.2.2.2) = nI (aNx s.2.2.2 + 1) - 1 from (nI_pred _).symm]
            refine mj_k rfl rfl ?_
            refine mj_blk h.1 b_Sw_raiseAlerts_87 rfl trivial ?_
            refine mj_lpk [0, 2, 3, 4, 5] rfl ?_
            have hp2 := hp
            unfold raF at hp2
            rw [if_pos (show (g 0 = true ∧ raP 0 s.1) from hyes)] at hp2
            rw [show (nI 0 + 1 : Int32) = nI 1 from rfl]
            exact ra_1 l D cA st rc x y f1 cpt f3 spt f5 lv tx ts hd hs nx bg en wa rl wy pt os Rw g hrc ht hR hg h k (by omega) _ (Nat.succ_le_of_lt (aNx_ok hs9).1) hp2 _ _ _ _ _ _
        · rw [hos] at hlen
          exact absurd hlen (by simp)
      · refine mj_blk h.1 b_Sw_raiseAlerts_47 rfl trivial ?_
        refine mj_blk h.1 b_Sw_raiseAlerts_87 rfl trivial ?_
        refine mj_lpk [0, 2, 3, 4, 5] rfl ?_
        have hp2 := hp
        unfold raF at hp2
        rw [if_neg (show ¬ (g 0 = true ∧ raP 0 s.1) from fun z => g2 z.2)] at hp2
        rw [show (nI 0 + 1 : Int32) = nI 1 from rfl]
        exact ra_1 l D cA st rc x y f1 cpt f3 spt f5 lv tx ts hd hs nx bg en wa rl wy pt os Rw g hrc ht hR hg h k (by omega) _ hs9 hp2 _ _ _ _ _ _
set_option maxRecDepth 100000 in
set_option maxHeartbeats 4000000 in
theorem ev_Sw_raiseAlerts (hrc : rc ≤ 6) (ht : ts ≤ 80) (hR : raR rc rl wy pt os tx ts Rw) (hg : ∀ r, g r = true ↔ raG wy pt os wa spt tx ts r) (s : raT) (hs9 : s.2.2.2 ≤ 24) (bm bl : Nat → Int32) (bt : Int32) (fm fl : Nat → Int32) (ft : Int32) : E_Sw_raiseAlerts l D cA 0 0 [.ref 50, .ref 90, .ref 80, .int wa] ([(50, cSw st rc), (60, .inr (7, [.ref 61, .ref 62])), (61, cMk 63 64 bt), (63, cBs bm), (64, cIs 81 bl), (62, cMk 65 66 ft), (65, cBs fm), (66, cIs 81 fl), (90, cFl x y f1 cpt f3 spt f5 lv), (80, cSm 81 82 ts hs nx s.1 bg en), (81, cIs 80 tx), (82, cIs 32 hd), (70, .inr (0, [.ref 71, .int s.2.2.1, .int (nI s.2.2.2 - 1)])), (71, cIs 96 s.2.1)] ++ Rw) (fun _ => True) (fun r1 w1 => r1 = none ∧ ∃ bm1 bl1 bt1 fm1 fl1 ft1, w1 = [(50, cSw st rc), (60, .inr (7, [.ref 61, .ref 62])), (61, cMk 63 64 bt1), (63, cBs bm1), (64, cIs 81 bl1), (62, cMk 65 66 ft1), (65, cBs fm1), (66, cIs 81 fl1), (90, cFl x y f1 cpt f3 spt f5 lv), (80, cSm 81 82 ts hs nx (raF g cpt wa ts rc 0 s).1 bg en), (81, cIs 80 tx), (82, cIs 32 hd), (70, .inr (0, [.ref 71, .int (raF g cpt wa ts rc 0 s).2.2.1, .int (nI (raF g cpt wa ts rc 0 s).2.2.2 - 1)])), (71, cIs 96 (raF g cpt wa ts rc 0 s).2.1)] ++ Rw) := by
  refine mj_ev (lv := [(0, .ref 50), (1, .ref 90), (2, .ref 80), (3, .int wa)]) (by decide +kernel) (Nat.le_of_ble_eq_true rfl) rfl (fun X h => ?_)
  refine mj_blk h.1 b_Sw_raiseAlerts_0 rfl trivial ?_
  exact ra_0 l D cA st rc x y f1 cpt f3 spt f5 lv tx ts hd hs nx bg en wa rl wy pt os Rw g hrc ht hR hg h rc (by omega) s hs9 (fun _ _ _ _ _ _ => ⟨rfl, _, _, _, _, _, _, rfl⟩) bm bl bt fm fl ft
end SWE
