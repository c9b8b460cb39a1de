/-! Search.holds: up to three options at 20, 21, 22; the rule at 11, its array at 12 (by program: wip/whole/src_holds.py) -/
abbrev oT : Type := Bool × Bool × Int32 × Int32 × Nat × Int64 × Bool
abbrev cOt (t : oT) : mj_C := cOp t.1 t.2.1 t.2.2.1 t.2.2.2.1 (nI t.2.2.2.2.1) t.2.2.2.2.2.1 t.2.2.2.2.2.2
def vFm (t : oT) (tx : Nat → Int32) (ts : Nat) (fm : Nat → Int32) : Nat → Int32 := vFind t.2.2.2.2.2.2 t.2.2.2.2.1 t.2.2.2.2.2.1 tx ts (ts + 1) 0 fm
def vBm (t : oT) (ts : Nat) (bm bl fm fl : Nat → Int32) : Nat → Int32 := if t.1 then vDrop t.2.1 t.2.2.1 t.2.2.2.1 fl ts (ts + 1) 0 bm else vMove t.2.2.1 t.2.2.2.1 (nI t.2.2.2.2.1) fm (vL0 t.2.1 ts bm bl) ts (ts + 1) 0 (vB0 t.2.1 ts bm)
def vBl (t : oT) (ts : Nat) (bm bl : Nat → Int32) : Nat → Int32 := if t.1 then bl else vL0 t.2.1 ts bm bl
def vRun (tx : Nat → Int32) (ts : Nat) : List oT → (Nat → Int32) → (Nat → Int32) → (Nat → Int32) → (Nat → Int32) → Bool → Bool
  | [], _, _, _, _, b => b
  | _ :: _, _, _, _, _, false => false
  | t :: os, bm, bl, fm, fl, true => vRun tx ts os (vBm t ts bm bl (vFm t tx ts fm) (kSet (ts + 1) 0 (-1) (vFm t tx ts fm) fl)) (kSet (ts + 1) 0 (-1) (vBm t ts bm bl (vFm t tx ts fm) (kSet (ts + 1) 0 (-1) (vFm t tx ts fm) fl)) (vBl t ts bm bl)) (vFm t tx ts fm) (kSet (ts + 1) 0 (-1) (vFm t tx ts fm) fl) (decide (kAny (kSet (ts + 1) 0 (-1) (vBm t ts bm bl (vFm t tx ts fm) (kSet (ts + 1) 0 (-1) (vFm t tx ts fm) fl)) (vBl t ts bm bl)) ts 0 (nI ts)))
theorem if_dec {P : Prop} [Decidable P] : (if decide P = true then (1 : Int32) else 0) = if P then 1 else 0 := by
  by_cases h : P <;> simp [h]
section HOLDS
variable (l : Launch) (D : va_G) (cA : Nat → ClassId) (wy pt : Int32) (tx : Nat → Int32) (ts : Nat) (hd : Nat → Int32) (hs nx rr : Int32) (bg en : Bool)

set_option maxRecDepth 100000 in
set_option maxHeartbeats 4000000 in
theorem hH_0_0 {X : mj_X} {post : mj_R} (h : mj_E zG X l D cA m_Se_holds 3 120 0 0 (fun _ => True) post) (b : Bool) (hp : (∀ bm bl bt fm fl ft, post (some (.int (if b then 1 else 0))) [(0, cSe), (1, cMk 3 4 bt), (3, cBs bm), (4, cIs 81 bl), (2, cMk 5 6 ft), (5, cBs fm), (6, cIs 81 fl), (8, cSm 9 10 ts hs nx rr bg en), (9, cIs 80 tx), (10, cIs 32 hd), (11, cRu 12 wy pt 0), (12, cOs [none, none, none])])) (bm bl fm fl : Nat → Int32) (bt ft : Int32) : mj_W zG X 0 0 30 [(5, .int (nI 0)), (4, .int (if b then 1 else 0)), (3, .int (nI ts)), (0, .ref 0), (1, .ref 11), (2, .ref 8)] [] [(0, cSe), (1, cMk 3 4 bt), (3, cBs bm), (4, cIs 81 bl), (2, cMk 5 6 ft), (5, cBs fm), (6, cIs 81 fl), (8, cSm 9 10 ts hs nx rr bg en), (9, cIs 80 tx), (10, cIs 32 hd), (11, cRu 12 wy pt 0), (12, cOs [none, none, none])] := by
  refine mj_blk h.1 b_Se_holds_30 rfl trivial ?_
  refine mj_callV h zGood (ev_Ru_size l D cA _ _ 0) v_Ru_size l_Se_holds_33 d_Se_holds_33 rfl ⟨by decide, by decide⟩ ⟨by decide, by decide⟩ [(0, 11), (1, 12), (20, 20), (21, 21), (22, 22)] rfl rfl rfl rfl rfl rfl (Nat.le_of_ble_eq_true rfl) ?_
  rintro _ _ ⟨rfl, rfl⟩
  refine mj_k rfl rfl ?_
  refine mj_icge h.1 (tgt := 116) d_Se_holds_36 (by decide) (fun h1 => ?_) (fun h1 => ?_)
  · refine mj_blk h.1 b_Se_holds_116 rfl trivial ?_
    exact mj_zret h rfl (mj_z01) d_Se_holds_118 (by decide) (by decide) (hp _ _ _ _ _ _)
  · exact absurd (by decide) h1
set_option maxRecDepth 100000 in
set_option maxHeartbeats 4000000 in
theorem ev_Se_holds_0 (ht : ts ≤ 80) (bm bl : Nat → Int32) (bt : Int32) (fm fl : Nat → Int32) (ft : Int32) : E_Se_holds l D cA 0 0 [.ref 0, .ref 11, .ref 8] [(0, cSe), (1, cMk 3 4 bt), (3, cBs bm), (4, cIs 81 bl), (2, cMk 5 6 ft), (5, cBs fm), (6, cIs 81 fl), (8, cSm 9 10 ts hs nx rr bg en), (9, cIs 80 tx), (10, cIs 32 hd), (11, cRu 12 wy pt 0), (12, cOs [none, none, none])] (fun _ => True) (fun r1 w1 => r1 = some (.int (0)) ∧ ∃ bm1 bl1 bt1 fm1 fl1 ft1, w1 = [(0, cSe), (1, cMk 3 4 bt1), (3, cBs bm1), (4, cIs 81 bl1), (2, cMk 5 6 ft1), (5, cBs fm1), (6, cIs 81 fl1), (8, cSm 9 10 ts hs nx rr bg en), (9, cIs 80 tx), (10, cIs 32 hd), (11, cRu 12 wy pt 0), (12, cOs [none, none, none])]) := by
  refine mj_ev (lv := [(0, .ref 0), (1, .ref 11), (2, .ref 8)]) (by decide +kernel) (Nat.le_of_ble_eq_true rfl) rfl (fun X h => ?_)
  refine mj_blk h.1 b_Se_holds_0 rfl trivial ?_
  refine mj_callV h zGood (ev_Sm_size l D cA _ _ _ _ _ _ _ _) v_Sm_size l_Se_holds_1 d_Se_holds_1 rfl ⟨by decide, by decide⟩ ⟨by decide, by decide⟩ [(0, 8), (1, 9), (2, 10)] rfl rfl rfl rfl rfl rfl (Nat.le_of_ble_eq_true rfl) ?_
  rintro _ _ ⟨rfl, rfl⟩
  refine mj_k rfl rfl ?_
  refine mj_blk h.1 b_Se_holds_4 rfl trivial ?_
  refine mj_callV h zGood (ev_Mk_markStartOnly l D cA _ _ _ ts ht) v_Mk_markStartOnly l_Se_holds_10 d_Se_holds_10 rfl ⟨by decide, by decide⟩ ⟨by decide, by decide⟩ [(0, 1), (1, 3), (2, 4)] rfl rfl rfl rfl rfl rfl (Nat.le_of_ble_eq_true rfl) ?_
  rintro _ _ ⟨rfl, rfl⟩
  refine mj_k rfl rfl ?_
  refine mj_blk h.1 b_Se_holds_13 rfl trivial ?_
  refine mj_callV h zGood (ev_Ru_size l D cA _ _ 0) v_Ru_size l_Se_holds_14 d_Se_holds_14 rfl ⟨by decide, by decide⟩ ⟨by decide, by decide⟩ [(0, 11), (1, 12), (20, 20), (21, 21), (22, 22)] rfl rfl rfl rfl rfl rfl (Nat.le_of_ble_eq_true rfl) ?_
  rintro _ _ ⟨rfl, rfl⟩
  refine mj_k rfl rfl ?_
  refine mj_ifle h.1 (tgt := 24) d_Se_holds_17 (by decide) (fun h1 => ?_) (fun h1 => ?_)
  · refine mj_blk h.1 b_Se_holds_24 rfl trivial ?_
    refine mj_blk h.1 b_Se_holds_25 rfl trivial ?_
    exact hH_0_0 l D cA wy pt tx ts hd hs nx rr bg en h false (fun _ _ _ _ _ _ => ⟨rfl, _, _, _, _, _, _, rfl⟩) _ _ _ _ _ _
  · exact absurd (by decide) h1
set_option maxRecDepth 100000 in
set_option maxHeartbeats 4000000 in
theorem hH_1_1 {X : mj_X} {post : mj_R} (h : mj_E zG X l D cA m_Se_holds 3 120 0 0 (fun _ => True) post) (t0 : oT) (hz0 : t0.2.2.2.2.1 ≤ 6) (b : Bool) (hp : (∀ bm bl bt fm fl ft, post (some (.int (if b then 1 else 0))) [(0, cSe), (1, cMk 3 4 bt), (3, cBs bm), (4, cIs 81 bl), (2, cMk 5 6 ft), (5, cBs fm), (6, cIs 81 fl), (8, cSm 9 10 ts hs nx rr bg en), (9, cIs 80 tx), (10, cIs 32 hd), (11, cRu 12 wy pt 1), (12, cOs [some 20, none, none]), (20, cOt t0)])) (bm bl fm fl : Nat → Int32) (bt ft : Int32) : mj_W zG X 0 0 30 [(5, .int (nI 1)), (4, .int (if b then 1 else 0)), (3, .int (nI ts)), (0, .ref 0), (1, .ref 11), (2, .ref 8)] [] [(0, cSe), (1, cMk 3 4 bt), (3, cBs bm), (4, cIs 81 bl), (2, cMk 5 6 ft), (5, cBs fm), (6, cIs 81 fl), (8, cSm 9 10 ts hs nx rr bg en), (9, cIs 80 tx), (10, cIs 32 hd), (11, cRu 12 wy pt 1), (12, cOs [some 20, none, none]), (20, cOt t0)] := by
  refine mj_blk h.1 b_Se_holds_30 rfl trivial ?_
  refine mj_callV h zGood (ev_Ru_size l D cA _ _ 1) v_Ru_size l_Se_holds_33 d_Se_holds_33 rfl ⟨by decide, by decide⟩ ⟨by decide, by decide⟩ [(0, 11), (1, 12), (20, 20), (21, 21), (22, 22)] rfl rfl rfl rfl rfl rfl (Nat.le_of_ble_eq_true rfl) ?_
  rintro _ _ ⟨rfl, rfl⟩
  refine mj_k rfl rfl ?_
  refine mj_icge h.1 (tgt := 116) d_Se_holds_36 (by decide) (fun h1 => ?_) (fun h1 => ?_)
  · refine mj_blk h.1 b_Se_holds_116 rfl trivial ?_
    exact mj_zret h rfl (mj_z01) d_Se_holds_118 (by decide) (by decide) (hp _ _ _ _ _ _)
  · exact absurd (by decide) h1
set_option maxRecDepth 100000 in
set_option maxHeartbeats 4000000 in
theorem hI_1_0 {X : mj_X} {post : mj_R} (ht : ts ≤ 80) (h : mj_E zG X l D cA m_Se_holds 3 120 0 0 (fun _ => True) post) (t0 : oT) (hz0 : t0.2.2.2.2.1 ≤ 6) (bm bl fm fl : Nat → Int32) (ft : Int32) (K : mj_W zG X 0 0 30 [(5, .int (nI 1)), (4, .int (if kAny (kSet (ts + 1) 0 (-1) (vBm t0 ts bm bl (vFm t0 tx ts fm) (kSet (ts + 1) 0 (-1) (vFm t0 tx ts fm) fl)) (vBl t0 ts bm bl)) ts 0 (nI ts) then 1 else 0)), (3, .int (nI ts)), (0, .ref 0), (1, .ref 11), (2, .ref 8)] [] [(0, cSe), (1, cMk 3 4 (nI ts)), (3, cBs (vBm t0 ts bm bl (vFm t0 tx ts fm) (kSet (ts + 1) 0 (-1) (vFm t0 tx ts fm) fl))), (4, cIs 81 (kSet (ts + 1) 0 (-1) (vBm t0 ts bm bl (vFm t0 tx ts fm) (kSet (ts + 1) 0 (-1) (vFm t0 tx ts fm) fl)) (vBl t0 ts bm bl))), (2, cMk 5 6 (nI ts)), (5, cBs (vFm t0 tx ts fm)), (6, cIs 81 (kSet (ts + 1) 0 (-1) (vFm t0 tx ts fm) fl)), (8, cSm 9 10 ts hs nx rr bg en), (9, cIs 80 tx), (10, cIs 32 hd), (11, cRu 12 wy pt 1), (12, cOs [some 20, none, none]), (20, cOt t0)]) : mj_W zG X 0 0 30 [(5, .int (nI 0)), (4, .int 1), (3, .int (nI ts)), (0, .ref 0), (1, .ref 11), (2, .ref 8)] [] [(0, cSe), (1, cMk 3 4 (nI ts)), (3, cBs bm), (4, cIs 81 bl), (2, cMk 5 6 ft), (5, cBs fm), (6, cIs 81 fl), (8, cSm 9 10 ts hs nx rr bg en), (9, cIs 80 tx), (10, cIs 32 hd), (11, cRu 12 wy pt 1), (12, cOs [some 20, none, none]), (20, cOt t0)] := by
  refine mj_blk h.1 b_Se_holds_30 rfl trivial ?_
  refine mj_callV h zGood (ev_Ru_size l D cA _ _ 1) v_Ru_size l_Se_holds_33 d_Se_holds_33 rfl ⟨by decide, by decide⟩ ⟨by decide, by decide⟩ [(0, 11), (1, 12), (20, 20), (21, 21), (22, 22)] rfl rfl rfl rfl rfl rfl (Nat.le_of_ble_eq_true rfl) ?_
  rintro _ _ ⟨rfl, rfl⟩
  refine mj_k rfl rfl ?_
  refine mj_icge h.1 (tgt := 116) d_Se_holds_36 (by decide) (fun h1 => ?_) (fun h1 => ?_)
  · exact absurd h1 (by decide)
  · refine mj_blk h.1 b_Se_holds_39 rfl trivial ?_
    refine mj_ifeq1 h.1 (tgt := 116) d_Se_holds_41 (by decide) ?_
    refine mj_blk h.1 b_Se_holds_44 rfl trivial ?_
    refine mj_callV h zGood (ev_Ru_at l D cA _ _ 1 [some 20, none, none] (by decide) 0 20 (by decide) rfl) v_Ru_at l_Se_holds_47 d_Se_holds_47 rfl ⟨by decide, by decide⟩ ⟨by decide, by decide⟩ [(0, 11), (1, 12), (20, 20), (21, 21), (22, 22)] rfl rfl rfl rfl rfl rfl (Nat.le_of_ble_eq_true rfl) ?_
    rintro _ _ ⟨rfl, rfl⟩
    refine mj_k rfl rfl ?_
    refine mj_blk h.1 b_Se_holds_50 rfl trivial ?_
    refine mj_ifnonnull_r h.1 d_Se_holds_54 (tgt := 59) (by decide) ?_
    refine mj_blk h.1 b_Se_holds_59 rfl trivial ?_
    refine mj_callV h zGood (ev_Se_find l D cA _ _ _ _ t0.2.2.2.2.1 _ _ _ ts _ _ _ _ _ _ hz0 ht _ _ _ _ _ _) v_Se_find l_Se_holds_63 d_Se_holds_63 rfl ⟨by decide, by decide⟩ ⟨by decide, by decide⟩ [(0, 0), (1, 1), (2, 2), (3, 3), (4, 4), (5, 5), (6, 6), (7, 20), (8, 8), (9, 9), (10, 10)] rfl rfl rfl rfl rfl rfl (Nat.le_of_ble_eq_true rfl) ?_
    rintro _ _ ⟨rfl, rfl⟩
    refine mj_k rfl rfl ?_
    refine mj_blk h.1 b_Se_holds_66 rfl trivial ?_
    first | refine mj_ifeqB h.1 (tgt := 84) d_Se_holds_71 (by decide) (fun h3 => ?_) (fun h3 => ?_) | refine mj_ifeq h.1 (tgt := 84) d_Se_holds_71 (by decide) (fun h3 => ?_) (fun h3 => ?_)
    · refine mj_blk h.1 b_Se_holds_84 rfl trivial ?_
      refine mj_callV h zGood (ev_Se_moveBases l D cA _ _ _ _ t0.2.2.2.2.1 _ _ ts ht _ _ _ _) v_Se_moveBases l_Se_holds_88 d_Se_holds_88 rfl ⟨by decide, by decide⟩ ⟨by decide, by decide⟩ [(0, 0), (1, 1), (2, 2), (3, 3), (4, 4), (5, 5), (6, 6), (7, 20), (8, 8), (9, 9), (10, 10)] rfl rfl rfl rfl rfl rfl (Nat.le_of_ble_eq_true rfl) ?_
      rintro _ _ ⟨rfl, rfl⟩
      refine mj_k rfl rfl ?_
      refine mj_blk h.1 b_Se_holds_91 rfl trivial ?_
      refine mj_callV h zGood (ev_Mk_settle l D cA _ _ _ ts ht) v_Mk_settle l_Se_holds_96 d_Se_holds_96 rfl ⟨by decide, by decide⟩ ⟨by decide, by decide⟩ [(0, 1), (1, 3), (2, 4)] rfl rfl rfl rfl rfl rfl (Nat.le_of_ble_eq_true rfl) ?_
      rintro _ _ ⟨rfl, rfl⟩
      refine mj_k rfl rfl ?_
      refine mj_blk h.1 b_Se_holds_99 rfl trivial ?_
      refine mj_callV h zGood (ev_Mk_isAnyIn l D cA _ _ ts ht _ _) v_Mk_isAnyIn l_Se_holds_105 d_Se_holds_105 rfl ⟨by decide, by decide⟩ ⟨by decide, by decide⟩ [(0, 1), (1, 3), (2, 4)] rfl rfl rfl rfl rfl rfl (Nat.le_of_ble_eq_true rfl) ?_
      rintro _ _ ⟨rfl, rfl⟩
      refine mj_k rfl rfl ?_
      refine mj_blk h.1 b_Se_holds_108 rfl trivial ?_
      refine mj_lpk [0, 1, 3, 4, 5, 6] rfl ?_
      have k2 := K
      unfold vBm vBl at k2
      rw [if_neg h3, if_neg h3] at k2
      exact k2
    · refine mj_blk h.1 b_Se_holds_74 rfl trivial ?_
      refine mj_callV h zGood (ev_Se_dropBases l D cA _ _ _ _ t0.2.2.2.2.1 _ _ ts ht _ _ _ _) v_Se_dropBases l_Se_holds_78 d_Se_holds_78 rfl ⟨by decide, by decide⟩ ⟨by decide, by decide⟩ [(0, 0), (1, 1), (2, 2), (3, 3), (4, 4), (5, 5), (6, 6), (7, 20), (8, 8), (9, 9), (10, 10)] rfl rfl rfl rfl rfl rfl (Nat.le_of_ble_eq_true rfl) ?_
      rintro _ _ ⟨rfl, rfl⟩
      refine mj_k rfl rfl ?_
      refine mj_blk h.1 b_Se_holds_81 rfl trivial ?_
      refine mj_blk h.1 b_Se_holds_91 rfl trivial ?_
      refine mj_callV h zGood (ev_Mk_settle l D cA _ _ _ ts ht) v_Mk_settle l_Se_holds_96 d_Se_holds_96 rfl ⟨by decide, by decide⟩ ⟨by decide, by decide⟩ [(0, 1), (1, 3), (2, 4)] rfl rfl rfl rfl rfl rfl (Nat.le_of_ble_eq_true rfl) ?_
      rintro _ _ ⟨rfl, rfl⟩
      refine mj_k rfl rfl ?_
      refine mj_blk h.1 b_Se_holds_99 rfl trivial ?_
      refine mj_callV h zGood (ev_Mk_isAnyIn l D cA _ _ ts ht _ _) v_Mk_isAnyIn l_Se_holds_105 d_Se_holds_105 rfl ⟨by decide, by decide⟩ ⟨by decide, by decide⟩ [(0, 1), (1, 3), (2, 4)] rfl rfl rfl rfl rfl rfl (Nat.le_of_ble_eq_true rfl) ?_
      rintro _ _ ⟨rfl, rfl⟩
      refine mj_k rfl rfl ?_
      refine mj_blk h.1 b_Se_holds_108 rfl trivial ?_
      refine mj_lpk [0, 1, 3, 4, 5, 6] rfl ?_
      have k2 := K
      unfold vBm vBl at k2
      rw [if_pos h3, if_pos h3] at k2
      exact k2
set_option maxRecDepth 100000 in
set_option maxHeartbeats 4000000 in
theorem hF_1_0 {X : mj_X} {post : mj_R} (h : mj_E zG X l D cA m_Se_holds 3 120 0 0 (fun _ => True) post) (t0 : oT) (hz0 : t0.2.2.2.2.1 ≤ 6) (bm bl fm fl : Nat → Int32) (bt ft : Int32) (hp : post (some (.int 0)) [(0, cSe), (1, cMk 3 4 bt), (3, cBs bm), (4, cIs 81 bl), (2, cMk 5 6 ft), (5, cBs fm), (6, cIs 81 fl), (8, cSm 9 10 ts hs nx rr bg en), (9, cIs 80 tx), (10, cIs 32 hd), (11, cRu 12 wy pt 1), (12, cOs [some 20, none, none]), (20, cOt t0)]) : mj_W zG X 0 0 30 [(5, .int (nI 0)), (4, .int 0), (3, .int (nI ts)), (0, .ref 0), (1, .ref 11), (2, .ref 8)] [] [(0, cSe), (1, cMk 3 4 bt), (3, cBs bm), (4, cIs 81 bl), (2, cMk 5 6 ft), (5, cBs fm), (6, cIs 81 fl), (8, cSm 9 10 ts hs nx rr bg en), (9, cIs 80 tx), (10, cIs 32 hd), (11, cRu 12 wy pt 1), (12, cOs [some 20, none, none]), (20, cOt t0)] := by
  refine mj_blk h.1 b_Se_holds_30 rfl trivial ?_
  refine mj_callV h zGood (ev_Ru_size l D cA _ _ 1) v_Ru_size l_Se_holds_33 d_Se_holds_33 rfl ⟨by decide, by decide⟩ ⟨by decide, by decide⟩ [(0, 11), (1, 12), (20, 20), (21, 21), (22, 22)] rfl rfl rfl rfl rfl rfl (Nat.le_of_ble_eq_true rfl) ?_
  rintro _ _ ⟨rfl, rfl⟩
  refine mj_k rfl rfl ?_
  refine mj_icge h.1 (tgt := 116) d_Se_holds_36 (by decide) (fun h1 => ?_) (fun h1 => ?_)
  · refine mj_blk h.1 b_Se_holds_116 rfl trivial ?_
    exact mj_zret h rfl (Or.inl rfl) d_Se_holds_118 (by decide) (by decide) hp
  · refine mj_blk h.1 b_Se_holds_39 rfl trivial ?_
    refine mj_ifeq0 h.1 (tgt := 116) d_Se_holds_41 (by decide) ?_
    refine mj_blk h.1 b_Se_holds_116 rfl trivial ?_
    exact mj_zret h rfl (Or.inl rfl) d_Se_holds_118 (by decide) (by decide) hp
set_option maxRecDepth 100000 in
set_option maxHeartbeats 4000000 in
theorem hH_1_0 {X : mj_X} {post : mj_R} (ht : ts ≤ 80) (h : mj_E zG X l D cA m_Se_holds 3 120 0 0 (fun _ => True) post) (t0 : oT) (hz0 : t0.2.2.2.2.1 ≤ 6) (b : Bool) (bm bl fm fl : Nat → Int32) (ft : Int32) (hp : ∀ bm1 bl1 bt fm1 fl1 ft, post (some (.int (if vRun tx ts [t0] bm bl fm fl b then 1 else 0))) [(0, cSe), (1, cMk 3 4 bt), (3, cBs bm1), (4, cIs 81 bl1), (2, cMk 5 6 ft), (5, cBs fm1), (6, cIs 81 fl1), (8, cSm 9 10 ts hs nx rr bg en), (9, cIs 80 tx), (10, cIs 32 hd), (11, cRu 12 wy pt 1), (12, cOs [some 20, none, none]), (20, cOt t0)]) : mj_W zG X 0 0 30 [(5, .int (nI 0)), (4, .int (if b then 1 else 0)), (3, .int (nI ts)), (0, .ref 0), (1, .ref 11), (2, .ref 8)] [] [(0, cSe), (1, cMk 3 4 (nI ts)), (3, cBs bm), (4, cIs 81 bl), (2, cMk 5 6 ft), (5, cBs fm), (6, cIs 81 fl), (8, cSm 9 10 ts hs nx rr bg en), (9, cIs 80 tx), (10, cIs 32 hd), (11, cRu 12 wy pt 1), (12, cOs [some 20, none, none]), (20, cOt t0)] := by
  cases b with
  | false =>
    exact hF_1_0 l D cA wy pt tx ts hd hs nx rr bg en h t0 hz0 bm bl fm fl (nI ts) ft (hp _ _ _ _ _ _)
  | true =>
    refine hI_1_0 l D cA wy pt tx ts hd hs nx rr bg en ht h t0 hz0 bm bl fm fl ft ?_
    rw [← if_dec]
    exact hH_1_1 l D cA wy pt tx ts hd hs nx rr bg en h t0 hz0 _ hp _ _ _ _ _ _
set_option maxRecDepth 100000 in
set_option maxHeartbeats 4000000 in
theorem ev_Se_holds_1 (ht : ts ≤ 80) (t0 : oT) (hz0 : t0.2.2.2.2.1 ≤ 6) (bm bl : Nat → Int32) (bt : Int32) (fm fl : Nat → Int32) (ft : Int32) : E_Se_holds l D cA 0 0 [.ref 0, .ref 11, .ref 8] [(0, cSe), (1, cMk 3 4 bt), (3, cBs bm), (4, cIs 81 bl), (2, cMk 5 6 ft), (5, cBs fm), (6, cIs 81 fl), (8, cSm 9 10 ts hs nx rr bg en), (9, cIs 80 tx), (10, cIs 32 hd), (11, cRu 12 wy pt 1), (12, cOs [some 20, none, none]), (20, cOt t0)] (fun _ => True) (fun r1 w1 => r1 = some (.int (if vRun tx ts [t0] (kStart (ts + 1) 0 bm) (kSet (ts + 1) 0 (-1) (kStart (ts + 1) 0 bm) bl) fm fl true then 1 else 0)) ∧ ∃ bm1 bl1 bt1 fm1 fl1 ft1, w1 = [(0, cSe), (1, cMk 3 4 bt1), (3, cBs bm1), (4, cIs 81 bl1), (2, cMk 5 6 ft1), (5, cBs fm1), (6, cIs 81 fl1), (8, cSm 9 10 ts hs nx rr bg en), (9, cIs 80 tx), (10, cIs 32 hd), (11, cRu 12 wy pt 1), (12, cOs [some 20, none, none]), (20, cOt t0)]) := by
  refine mj_ev (lv := [(0, .ref 0), (1, .ref 11), (2, .ref 8)]) (by decide +kernel) (Nat.le_of_ble_eq_true rfl) rfl (fun X h => ?_)
  refine mj_blk h.1 b_Se_holds_0 rfl trivial ?_
  refine mj_callV h zGood (ev_Sm_size l D cA _ _ _ _ _ _ _ _) v_Sm_size l_Se_holds_1 d_Se_holds_1 rfl ⟨by decide, by decide⟩ ⟨by decide, by decide⟩ [(0, 8), (1, 9), (2, 10)] rfl rfl rfl rfl rfl rfl (Nat.le_of_ble_eq_true rfl) ?_
  rintro _ _ ⟨rfl, rfl⟩
  refine mj_k rfl rfl ?_
  refine mj_blk h.1 b_Se_holds_4 rfl trivial ?_
  refine mj_callV h zGood (ev_Mk_markStartOnly l D cA _ _ _ ts ht) v_Mk_markStartOnly l_Se_holds_10 d_Se_holds_10 rfl ⟨by decide, by decide⟩ ⟨by decide, by decide⟩ [(0, 1), (1, 3), (2, 4)] rfl rfl rfl rfl rfl rfl (Nat.le_of_ble_eq_true rfl) ?_
  rintro _ _ ⟨rfl, rfl⟩
  refine mj_k rfl rfl ?_
  refine mj_blk h.1 b_Se_holds_13 rfl trivial ?_
  refine mj_callV h zGood (ev_Ru_size l D cA _ _ 1) v_Ru_size l_Se_holds_14 d_Se_holds_14 rfl ⟨by decide, by decide⟩ ⟨by decide, by decide⟩ [(0, 11), (1, 12), (20, 20), (21, 21), (22, 22)] rfl rfl rfl rfl rfl rfl (Nat.le_of_ble_eq_true rfl) ?_
  rintro _ _ ⟨rfl, rfl⟩
  refine mj_k rfl rfl ?_
  refine mj_ifle h.1 (tgt := 24) d_Se_holds_17 (by decide) (fun h1 => ?_) (fun h1 => ?_)
  · exact absurd h1 (by decide)
  · refine mj_blk h.1 b_Se_holds_20 rfl trivial ?_
    refine mj_blk h.1 b_Se_holds_25 rfl trivial ?_
    exact hH_1_0 l D cA wy pt tx ts hd hs nx rr bg en ht h t0 hz0 true _ _ _ _ _ (fun _ _ _ _ _ _ => ⟨rfl, _, _, _, _, _, _, rfl⟩)
set_option maxRecDepth 100000 in
set_option maxHeartbeats 4000000 in
theorem hH_2_2 {X : mj_X} {post : mj_R} (h : mj_E zG X l D cA m_Se_holds 3 120 0 0 (fun _ => True) post) (t0 : oT) (hz0 : t0.2.2.2.2.1 ≤ 6) (t1 : oT) (hz1 : t1.2.2.2.2.1 ≤ 6) (b : Bool) (hp : (∀ bm bl bt fm fl ft, post (some (.int (if b then 1 else 0))) [(0, cSe), (1, cMk 3 4 bt), (3, cBs bm), (4, cIs 81 bl), (2, cMk 5 6 ft), (5, cBs fm), (6, cIs 81 fl), (8, cSm 9 10 ts hs nx rr bg en), (9, cIs 80 tx), (10, cIs 32 hd), (11, cRu 12 wy pt 2), (12, cOs [some 20, some 21, none]), (20, cOt t0), (21, cOt t1)])) (bm bl fm fl : Nat → Int32) (bt ft : Int32) : mj_W zG X 0 0 30 [(5, .int (nI 2)), (4, .int (if b then 1 else 0)), (3, .int (nI ts)), (0, .ref 0), (1, .ref 11), (2, .ref 8)] [] [(0, cSe), (1, cMk 3 4 bt), (3, cBs bm), (4, cIs 81 bl), (2, cMk 5 6 ft), (5, cBs fm), (6, cIs 81 fl), (8, cSm 9 10 ts hs nx rr bg en), (9, cIs 80 tx), (10, cIs 32 hd), (11, cRu 12 wy pt 2), (12, cOs [some 20, some 21, none]), (20, cOt t0), (21, cOt t1)] := by
  refine mj_blk h.1 b_Se_holds_30 rfl trivial ?_
  refine mj_callV h zGood (ev_Ru_size l D cA _ _ 2) v_Ru_size l_Se_holds_33 d_Se_holds_33 rfl ⟨by decide, by decide⟩ ⟨by decide, by decide⟩ [(0, 11), (1, 12), (20, 20), (21, 21), (22, 22)] rfl rfl rfl rfl rfl rfl (Nat.le_of_ble_eq_true rfl) ?_
  rintro _ _ ⟨rfl, rfl⟩
  refine mj_k rfl rfl ?_
  refine mj_icge h.1 (tgt := 116) d_Se_holds_36 (by decide) (fun h1 => ?_) (fun h1 => ?_)
  · refine mj_blk h.1 b_Se_holds_116 rfl trivial ?_
    exact mj_zret h rfl (mj_z01) d_Se_holds_118 (by decide) (by decide) (hp _ _ _ _ _ _)
  · exact absurd (by decide) h1
set_option maxRecDepth 100000 in
set_option maxHeartbeats 4000000 in
theorem hI_2_1 {X : mj_X} {post : mj_R} (ht : ts ≤ 80) (h : mj_E zG X l D cA m_Se_holds 3 120 0 0 (fun _ => True) post) (t0 : oT) (hz0 : t0.2.2.2.2.1 ≤ 6) (t1 : oT) (hz1 : t1.2.2.2.2.1 ≤ 6) (bm bl fm fl : Nat → Int32) (ft : Int32) (K : mj_W zG X 0 0 30 [(5, .int (nI 2)), (4, .int (if kAny (kSet (ts + 1) 0 (-1) (vBm t1 ts bm bl (vFm t1 tx ts fm) (kSet (ts + 1) 0 (-1) (vFm t1 tx ts fm) fl)) (vBl t1 ts bm bl)) ts 0 (nI ts) then 1 else 0)), (3, .int (nI ts)), (0, .ref 0), (1, .ref 11), (2, .ref 8)] [] [(0, cSe), (1, cMk 3 4 (nI ts)), (3, cBs (vBm t1 ts bm bl (vFm t1 tx ts fm) (kSet (ts + 1) 0 (-1) (vFm t1 tx ts fm) fl))), (4, cIs 81 (kSet (ts + 1) 0 (-1) (vBm t1 ts bm bl (vFm t1 tx ts fm) (kSet (ts + 1) 0 (-1) (vFm t1 tx ts fm) fl)) (vBl t1 ts bm bl))), (2, cMk 5 6 (nI ts)), (5, cBs (vFm t1 tx ts fm)), (6, cIs 81 (kSet (ts + 1) 0 (-1) (vFm t1 tx ts fm) fl)), (8, cSm 9 10 ts hs nx rr bg en), (9, cIs 80 tx), (10, cIs 32 hd), (11, cRu 12 wy pt 2), (12, cOs [some 20, some 21, none]), (20, cOt t0), (21, cOt t1)]) : mj_W zG X 0 0 30 [(5, .int (nI 1)), (4, .int 1), (3, .int (nI ts)), (0, .ref 0), (1, .ref 11), (2, .ref 8)] [] [(0, cSe), (1, cMk 3 4 (nI ts)), (3, cBs bm), (4, cIs 81 bl), (2, cMk 5 6 ft), (5, cBs fm), (6, cIs 81 fl), (8, cSm 9 10 ts hs nx rr bg en), (9, cIs 80 tx), (10, cIs 32 hd), (11, cRu 12 wy pt 2), (12, cOs [some 20, some 21, none]), (20, cOt t0), (21, cOt t1)] := by
  refine mj_blk h.1 b_Se_holds_30 rfl trivial ?_
  refine mj_callV h zGood (ev_Ru_size l D cA _ _ 2) v_Ru_size l_Se_holds_33 d_Se_holds_33 rfl ⟨by decide, by decide⟩ ⟨by decide, by decide⟩ [(0, 11), (1, 12), (20, 20), (21, 21), (22, 22)] rfl rfl rfl rfl rfl rfl (Nat.le_of_ble_eq_true rfl) ?_
  rintro _ _ ⟨rfl, rfl⟩
  refine mj_k rfl rfl ?_
  refine mj_icge h.1 (tgt := 116) d_Se_holds_36 (by decide) (fun h1 => ?_) (fun h1 => ?_)
  · exact absurd h1 (by decide)
  · refine mj_blk h.1 b_Se_holds_39 rfl trivial ?_
    refine mj_ifeq1 h.1 (tgt := 116) d_Se_holds_41 (by decide) ?_
    refine mj_blk h.1 b_Se_holds_44 rfl trivial ?_
    refine mj_callV h zGood (ev_Ru_at l D cA _ _ 2 [some 20, some 21, none] (by decide) 1 21 (by decide) rfl) v_Ru_at l_Se_holds_47 d_Se_holds_47 rfl ⟨by decide, by decide⟩ ⟨by decide, by decide⟩ [(0, 11), (1, 12), (20, 20), (21, 21), (22, 22)] rfl rfl rfl rfl rfl rfl (Nat.le_of_ble_eq_true rfl) ?_
    rintro _ _ ⟨rfl, rfl⟩
    refine mj_k rfl rfl ?_
    refine mj_blk h.1 b_Se_holds_50 rfl trivial ?_
    refine mj_ifnonnull_r h.1 d_Se_holds_54 (tgt := 59) (by decide) ?_
    refine mj_blk h.1 b_Se_holds_59 rfl trivial ?_
    refine mj_callV h zGood (ev_Se_find l D cA _ _ _ _ t1.2.2.2.2.1 _ _ _ ts _ _ _ _ _ _ hz1 ht _ _ _ _ _ _) v_Se_find l_Se_holds_63 d_Se_holds_63 rfl ⟨by decide, by decide⟩ ⟨by decide, by decide⟩ [(0, 0), (1, 1), (2, 2), (3, 3), (4, 4), (5, 5), (6, 6), (7, 21), (8, 8), (9, 9), (10, 10)] rfl rfl rfl rfl rfl rfl (Nat.le_of_ble_eq_true rfl) ?_
    rintro _ _ ⟨rfl, rfl⟩
    refine mj_k rfl rfl ?_
    refine mj_blk h.1 b_Se_holds_66 rfl trivial ?_
    first | refine mj_ifeqB h.1 (tgt := 84) d_Se_holds_71 (by decide) (fun h3 => ?_) (fun h3 => ?_) | refine mj_ifeq h.1 (tgt := 84) d_Se_holds_71 (by decide) (fun h3 => ?_) (fun h3 => ?_)
    · refine mj_blk h.1 b_Se_holds_84 rfl trivial ?_
      refine mj_callV h zGood (ev_Se_moveBases l D cA _ _ _ _ t1.2.2.2.2.1 _ _ ts ht _ _ _ _) v_Se_moveBases l_Se_holds_88 d_Se_holds_88 rfl ⟨by decide, by decide⟩ ⟨by decide, by decide⟩ [(0, 0), (1, 1), (2, 2), (3, 3), (4, 4), (5, 5), (6, 6), (7, 21), (8, 8), (9, 9), (10, 10)] rfl rfl rfl rfl rfl rfl (Nat.le_of_ble_eq_true rfl) ?_
      rintro _ _ ⟨rfl, rfl⟩
      refine mj_k rfl rfl ?_
      refine mj_blk h.1 b_Se_holds_91 rfl trivial ?_
      refine mj_callV h zGood (ev_Mk_settle l D cA _ _ _ ts ht) v_Mk_settle l_Se_holds_96 d_Se_holds_96 rfl ⟨by decide, by decide⟩ ⟨by decide, by decide⟩ [(0, 1), (1, 3), (2, 4)] rfl rfl rfl rfl rfl rfl (Nat.le_of_ble_eq_true rfl) ?_
      rintro _ _ ⟨rfl, rfl⟩
      refine mj_k rfl rfl ?_
      refine mj_blk h.1 b_Se_holds_99 rfl trivial ?_
      refine mj_callV h zGood (ev_Mk_isAnyIn l D cA _ _ ts ht _ _) v_Mk_isAnyIn l_Se_holds_105 d_Se_holds_105 rfl ⟨by decide, by decide⟩ ⟨by decide, by decide⟩ [(0, 1), (1, 3), (2, 4)] rfl rfl rfl rfl rfl rfl (Nat.le_of_ble_eq_true rfl) ?_
      rintro _ _ ⟨rfl, rfl⟩
      refine mj_k rfl rfl ?_
      refine mj_blk h.1 b_Se_holds_108 rfl trivial ?_
      refine mj_lpk [0, 1, 3, 4, 5, 6] rfl ?_
      have k2 := K
      unfold vBm vBl at k2
      rw [if_neg h3, if_neg h3] at k2
      exact k2
    · refine mj_blk h.1 b_Se_holds_74 rfl trivial ?_
      refine mj_callV h zGood (ev_Se_dropBases l D cA _ _ _ _ t1.2.2.2.2.1 _ _ ts ht _ _ _ _) v_Se_dropBases l_Se_holds_78 d_Se_holds_78 rfl ⟨by decide, by decide⟩ ⟨by decide, by decide⟩ [(0, 0), (1, 1), (2, 2), (3, 3), (4, 4), (5, 5), (6, 6), (7, 21), (8, 8), (9, 9), (10, 10)] rfl rfl rfl rfl rfl rfl (Nat.le_of_ble_eq_true rfl) ?_
      rintro _ _ ⟨rfl, rfl⟩
      refine mj_k rfl rfl ?_
      refine mj_blk h.1 b_Se_holds_81 rfl trivial ?_
      refine mj_blk h.1 b_Se_holds_91 rfl trivial ?_
      refine mj_callV h zGood (ev_Mk_settle l D cA _ _ _ ts ht) v_Mk_settle l_Se_holds_96 d_Se_holds_96 rfl ⟨by decide, by decide⟩ ⟨by decide, by decide⟩ [(0, 1), (1, 3), (2, 4)] rfl rfl rfl rfl rfl rfl (Nat.le_of_ble_eq_true rfl) ?_
      rintro _ _ ⟨rfl, rfl⟩
      refine mj_k rfl rfl ?_
      refine mj_blk h.1 b_Se_holds_99 rfl trivial ?_
      refine mj_callV h zGood (ev_Mk_isAnyIn l D cA _ _ ts ht _ _) v_Mk_isAnyIn l_Se_holds_105 d_Se_holds_105 rfl ⟨by decide, by decide⟩ ⟨by decide, by decide⟩ [(0, 1), (1, 3), (2, 4)] rfl rfl rfl rfl rfl rfl (Nat.le_of_ble_eq_true rfl) ?_
      rintro _ _ ⟨rfl, rfl⟩
      refine mj_k rfl rfl ?_
      refine mj_blk h.1 b_Se_holds_108 rfl trivial ?_
      refine mj_lpk [0, 1, 3, 4, 5, 6] rfl ?_
      have k2 := K
      unfold vBm vBl at k2
      rw [if_pos h3, if_pos h3] at k2
      exact k2
set_option maxRecDepth 100000 in
set_option maxHeartbeats 4000000 in
theorem hF_2_1 {X : mj_X} {post : mj_R} (h : mj_E zG X l D cA m_Se_holds 3 120 0 0 (fun _ => True) post) (t0 : oT) (hz0 : t0.2.2.2.2.1 ≤ 6) (t1 : oT) (hz1 : t1.2.2.2.2.1 ≤ 6) (bm bl fm fl : Nat → Int32) (bt ft : Int32) (hp : post (some (.int 0)) [(0, cSe), (1, cMk 3 4 bt), (3, cBs bm), (4, cIs 81 bl), (2, cMk 5 6 ft), (5, cBs fm), (6, cIs 81 fl), (8, cSm 9 10 ts hs nx rr bg en), (9, cIs 80 tx), (10, cIs 32 hd), (11, cRu 12 wy pt 2), (12, cOs [some 20, some 21, none]), (20, cOt t0), (21, cOt t1)]) : mj_W zG X 0 0 30 [(5, .int (nI 1)), (4, .int 0), (3, .int (nI ts)), (0, .ref 0), (1, .ref 11), (2, .ref 8)] [] [(0, cSe), (1, cMk 3 4 bt), (3, cBs bm), (4, cIs 81 bl), (2, cMk 5 6 ft), (5, cBs fm), (6, cIs 81 fl), (8, cSm 9 10 ts hs nx rr bg en), (9, cIs 80 tx), (10, cIs 32 hd), (11, cRu 12 wy pt 2), (12, cOs [some 20, some 21, none]), (20, cOt t0), (21, cOt t1)] := by
  refine mj_blk h.1 b_Se_holds_30 rfl trivial ?_
  refine mj_callV h zGood (ev_Ru_size l D cA _ _ 2) v_Ru_size l_Se_holds_33 d_Se_holds_33 rfl ⟨by decide, by decide⟩ ⟨by decide, by decide⟩ [(0, 11), (1, 12), (20, 20), (21, 21), (22, 22)] rfl rfl rfl rfl rfl rfl (Nat.le_of_ble_eq_true rfl) ?_
  rintro _ _ ⟨rfl, rfl⟩
  refine mj_k rfl rfl ?_
  refine mj_icge h.1 (tgt := 116) d_Se_holds_36 (by decide) (fun h1 => ?_) (fun h1 => ?_)
  · refine mj_blk h.1 b_Se_holds_116 rfl trivial ?_
    exact mj_zret h rfl (Or.inl rfl) d_Se_holds_118 (by decide) (by decide) hp
  · refine mj_blk h.1 b_Se_holds_39 rfl trivial ?_
    refine mj_ifeq0 h.1 (tgt := 116) d_Se_holds_41 (by decide) ?_
    refine mj_blk h.1 b_Se_holds_116 rfl trivial ?_
    exact mj_zret h rfl (Or.inl rfl) d_Se_holds_118 (by decide) (by decide) hp
set_option maxRecDepth 100000 in
set_option maxHeartbeats 4000000 in
theorem hH_2_1 {X : mj_X} {post : mj_R} (ht : ts ≤ 80) (h : mj_E zG X l D cA m_Se_holds 3 120 0 0 (fun _ => True) post) (t0 : oT) (hz0 : t0.2.2.2.2.1 ≤ 6) (t1 : oT) (hz1 : t1.2.2.2.2.1 ≤ 6) (b : Bool) (bm bl fm fl : Nat → Int32) (ft : Int32) (hp : ∀ bm1 bl1 bt fm1 fl1 ft, post (some (.int (if vRun tx ts [t1] bm bl fm fl b then 1 else 0))) [(0, cSe), (1, cMk 3 4 bt), (3, cBs bm1), (4, cIs 81 bl1), (2, cMk 5 6 ft), (5, cBs fm1), (6, cIs 81 fl1), (8, cSm 9 10 ts hs nx rr bg en), (9, cIs 80 tx), (10, cIs 32 hd), (11, cRu 12 wy pt 2), (12, cOs [some 20, some 21, none]), (20, cOt t0), (21, cOt t1)]) : mj_W zG X 0 0 30 [(5, .int (nI 1)), (4, .int (if b then 1 else 0)), (3, .int (nI ts)), (0, .ref 0), (1, .ref 11), (2, .ref 8)] [] [(0, cSe), (1, cMk 3 4 (nI ts)), (3, cBs bm), (4, cIs 81 bl), (2, cMk 5 6 ft), (5, cBs fm), (6, cIs 81 fl), (8, cSm 9 10 ts hs nx rr bg en), (9, cIs 80 tx), (10, cIs 32 hd), (11, cRu 12 wy pt 2), (12, cOs [some 20, some 21, none]), (20, cOt t0), (21, cOt t1)] := by
  cases b with
  | false =>
    exact hF_2_1 l D cA wy pt tx ts hd hs nx rr bg en h t0 hz0 t1 hz1 bm bl fm fl (nI ts) ft (hp _ _ _ _ _ _)
  | true =>
    refine hI_2_1 l D cA wy pt tx ts hd hs nx rr bg en ht h t0 hz0 t1 hz1 bm bl fm fl ft ?_
    rw [← if_dec]
    exact hH_2_2 l D cA wy pt tx ts hd hs nx rr bg en h t0 hz0 t1 hz1 _ hp _ _ _ _ _ _
set_option maxRecDepth 100000 in
set_option maxHeartbeats 4000000 in
theorem hI_2_0 {X : mj_X} {post : mj_R} (ht : ts ≤ 80) (h : mj_E zG X l D cA m_Se_holds 3 120 0 0 (fun _ => True) post) (t0 : oT) (hz0 : t0.2.2.2.2.1 ≤ 6) (t1 : oT) (hz1 : t1.2.2.2.2.1 ≤ 6) (bm bl fm fl : Nat → Int32) (ft : Int32) (K : mj_W zG X 0 0 30 [(5, .int (nI 1)), (4, .int (if kAny (kSet (ts + 1) 0 (-1) (vBm t0 ts bm bl (vFm t0 tx ts fm) (kSet (ts + 1) 0 (-1) (vFm t0 tx ts fm) fl)) (vBl t0 ts bm bl)) ts 0 (nI ts) then 1 else 0)), (3, .int (nI ts)), (0, .ref 0), (1, .ref 11), (2, .ref 8)] [] [(0, cSe), (1, cMk 3 4 (nI ts)), (3, cBs (vBm t0 ts bm bl (vFm t0 tx ts fm) (kSet (ts + 1) 0 (-1) (vFm t0 tx ts fm) fl))), (4, cIs 81 (kSet (ts + 1) 0 (-1) (vBm t0 ts bm bl (vFm t0 tx ts fm) (kSet (ts + 1) 0 (-1) (vFm t0 tx ts fm) fl)) (vBl t0 ts bm bl))), (2, cMk 5 6 (nI ts)), (5, cBs (vFm t0 tx ts fm)), (6, cIs 81 (kSet (ts + 1) 0 (-1) (vFm t0 tx ts fm) fl)), (8, cSm 9 10 ts hs nx rr bg en), (9, cIs 80 tx), (10, cIs 32 hd), (11, cRu 12 wy pt 2), (12, cOs [some 20, some 21, none]), (20, cOt t0), (21, cOt t1)]) : mj_W zG X 0 0 30 [(5, .int (nI 0)), (4, .int 1), (3, .int (nI ts)), (0, .ref 0), (1, .ref 11), (2, .ref 8)] [] [(0, cSe), (1, cMk 3 4 (nI ts)), (3, cBs bm), (4, cIs 81 bl), (2, cMk 5 6 ft), (5, cBs fm), (6, cIs 81 fl), (8, cSm 9 10 ts hs nx rr bg en), (9, cIs 80 tx), (10, cIs 32 hd), (11, cRu 12 wy pt 2), (12, cOs [some 20, some 21, none]), (20, cOt t0), (21, cOt t1)] := by
  refine mj_blk h.1 b_Se_holds_30 rfl trivial ?_
  refine mj_callV h zGood (ev_Ru_size l D cA _ _ 2) v_Ru_size l_Se_holds_33 d_Se_holds_33 rfl ⟨by decide, by decide⟩ ⟨by decide, by decide⟩ [(0, 11), (1, 12), (20, 20), (21, 21), (22, 22)] rfl rfl rfl rfl rfl rfl (Nat.le_of_ble_eq_true rfl) ?_
  rintro _ _ ⟨rfl, rfl⟩
  refine mj_k rfl rfl ?_
  refine mj_icge h.1 (tgt := 116) d_Se_holds_36 (by decide) (fun h1 => ?_) (fun h1 => ?_)
  · exact absurd h1 (by decide)
  · refine mj_blk h.1 b_Se_holds_39 rfl trivial ?_
    refine mj_ifeq1 h.1 (tgt := 116) d_Se_holds_41 (by decide) ?_
    refine mj_blk h.1 b_Se_holds_44 rfl trivial ?_
    refine mj_callV h zGood (ev_Ru_at l D cA _ _ 2 [some 20, some 21, none] (by decide) 0 20 (by decide) rfl) v_Ru_at l_Se_holds_47 d_Se_holds_47 rfl ⟨by decide, by decide⟩ ⟨by decide, by decide⟩ [(0, 11), (1, 12), (20, 20), (21, 21), (22, 22)] rfl rfl rfl rfl rfl rfl (Nat.le_of_ble_eq_true rfl) ?_
    rintro _ _ ⟨rfl, rfl⟩
    refine mj_k rfl rfl ?_
    refine mj_blk h.1 b_Se_holds_50 rfl trivial ?_
    refine mj_ifnonnull_r h.1 d_Se_holds_54 (tgt := 59) (by decide) ?_
    refine mj_blk h.1 b_Se_holds_59 rfl trivial ?_
    refine mj_callV h zGood (ev_Se_find l D cA _ _ _ _ t0.2.2.2.2.1 _ _ _ ts _ _ _ _ _ _ hz0 ht _ _ _ _ _ _) v_Se_find l_Se_holds_63 d_Se_holds_63 rfl ⟨by decide, by decide⟩ ⟨by decide, by decide⟩ [(0, 0), (1, 1), (2, 2), (3, 3), (4, 4), (5, 5), (6, 6), (7, 20), (8, 8), (9, 9), (10, 10)] rfl rfl rfl rfl rfl rfl (Nat.le_of_ble_eq_true rfl) ?_
    rintro _ _ ⟨rfl, rfl⟩
    refine mj_k rfl rfl ?_
    refine mj_blk h.1 b_Se_holds_66 rfl trivial ?_
    first | refine mj_ifeqB h.1 (tgt := 84) d_Se_holds_71 (by decide) (fun h3 => ?_) (fun h3 => ?_) | refine mj_ifeq h.1 (tgt := 84) d_Se_holds_71 (by decide) (fun h3 => ?_) (fun h3 => ?_)
    · refine mj_blk h.1 b_Se_holds_84 rfl trivial ?_
      refine mj_callV h zGood (ev_Se_moveBases l D cA _ _ _ _ t0.2.2.2.2.1 _ _ ts ht _ _ _ _) v_Se_moveBases l_Se_holds_88 d_Se_holds_88 rfl ⟨by decide, by decide⟩ ⟨by decide, by decide⟩ [(0, 0), (1, 1), (2, 2), (3, 3), (4, 4), (5, 5), (6, 6), (7, 20), (8, 8), (9, 9), (10, 10)] rfl rfl rfl rfl rfl rfl (Nat.le_of_ble_eq_true rfl) ?_
      rintro _ _ ⟨rfl, rfl⟩
      refine mj_k rfl rfl ?_
      refine mj_blk h.1 b_Se_holds_91 rfl trivial ?_
      refine mj_callV h zGood (ev_Mk_settle l D cA _ _ _ ts ht) v_Mk_settle l_Se_holds_96 d_Se_holds_96 rfl ⟨by decide, by decide⟩ ⟨by decide, by decide⟩ [(0, 1), (1, 3), (2, 4)] rfl rfl rfl rfl rfl rfl (Nat.le_of_ble_eq_true rfl) ?_
      rintro _ _ ⟨rfl, rfl⟩
      refine mj_k rfl rfl ?_
      refine mj_blk h.1 b_Se_holds_99 rfl trivial ?_
      refine mj_callV h zGood (ev_Mk_isAnyIn l D cA _ _ ts ht _ _) v_Mk_isAnyIn l_Se_holds_105 d_Se_holds_105 rfl ⟨by decide, by decide⟩ ⟨by decide, by decide⟩ [(0, 1), (1, 3), (2, 4)] rfl rfl rfl rfl rfl rfl (Nat.le_of_ble_eq_true rfl) ?_
      rintro _ _ ⟨rfl, rfl⟩
      refine mj_k rfl rfl ?_
      refine mj_blk h.1 b_Se_holds_108 rfl trivial ?_
      refine mj_lpk [0, 1, 3, 4, 5, 6] rfl ?_
      have k2 := K
      unfold vBm vBl at k2
      rw [if_neg h3, if_neg h3] at k2
      exact k2
    · refine mj_blk h.1 b_Se_holds_74 rfl trivial ?_
      refine mj_callV h zGood (ev_Se_dropBases l D cA _ _ _ _ t0.2.2.2.2.1 _ _ ts ht _ _ _ _) v_Se_dropBases l_Se_holds_78 d_Se_holds_78 rfl ⟨by decide, by decide⟩ ⟨by decide, by decide⟩ [(0, 0), (1, 1), (2, 2), (3, 3), (4, 4), (5, 5), (6, 6), (7, 20), (8, 8), (9, 9), (10, 10)] rfl rfl rfl rfl rfl rfl (Nat.le_of_ble_eq_true rfl) ?_
      rintro _ _ ⟨rfl, rfl⟩
      refine mj_k rfl rfl ?_
      refine mj_blk h.1 b_Se_holds_81 rfl trivial ?_
      refine mj_blk h.1 b_Se_holds_91 rfl trivial ?_
      refine mj_callV h zGood (ev_Mk_settle l D cA _ _ _ ts ht) v_Mk_settle l_Se_holds_96 d_Se_holds_96 rfl ⟨by decide, by decide⟩ ⟨by decide, by decide⟩ [(0, 1), (1, 3), (2, 4)] rfl rfl rfl rfl rfl rfl (Nat.le_of_ble_eq_true rfl) ?_
      rintro _ _ ⟨rfl, rfl⟩
      refine mj_k rfl rfl ?_
      refine mj_blk h.1 b_Se_holds_99 rfl trivial ?_
      refine mj_callV h zGood (ev_Mk_isAnyIn l D cA _ _ ts ht _ _) v_Mk_isAnyIn l_Se_holds_105 d_Se_holds_105 rfl ⟨by decide, by decide⟩ ⟨by decide, by decide⟩ [(0, 1), (1, 3), (2, 4)] rfl rfl rfl rfl rfl rfl (Nat.le_of_ble_eq_true rfl) ?_
      rintro _ _ ⟨rfl, rfl⟩
      refine mj_k rfl rfl ?_
      refine mj_blk h.1 b_Se_holds_108 rfl trivial ?_
      refine mj_lpk [0, 1, 3, 4, 5, 6] rfl ?_
      have k2 := K
      unfold vBm vBl at k2
      rw [if_pos h3, if_pos h3] at k2
      exact k2
set_option maxRecDepth 100000 in
set_option maxHeartbeats 4000000 in
theorem hF_2_0 {X : mj_X} {post : mj_R} (h : mj_E zG X l D cA m_Se_holds 3 120 0 0 (fun _ => True) post) (t0 : oT) (hz0 : t0.2.2.2.2.1 ≤ 6) (t1 : oT) (hz1 : t1.2.2.2.2.1 ≤ 6) (bm bl fm fl : Nat → Int32) (bt ft : Int32) (hp : post (some (.int 0)) [(0, cSe), (1, cMk 3 4 bt), (3, cBs bm), (4, cIs 81 bl), (2, cMk 5 6 ft), (5, cBs fm), (6, cIs 81 fl), (8, cSm 9 10 ts hs nx rr bg en), (9, cIs 80 tx), (10, cIs 32 hd), (11, cRu 12 wy pt 2), (12, cOs [some 20, some 21, none]), (20, cOt t0), (21, cOt t1)]) : mj_W zG X 0 0 30 [(5, .int (nI 0)), (4, .int 0), (3, .int (nI ts)), (0, .ref 0), (1, .ref 11), (2, .ref 8)] [] [(0, cSe), (1, cMk 3 4 bt), (3, cBs bm), (4, cIs 81 bl), (2, cMk 5 6 ft), (5, cBs fm), (6, cIs 81 fl), (8, cSm 9 10 ts hs nx rr bg en), (9, cIs 80 tx), (10, cIs 32 hd), (11, cRu 12 wy pt 2), (12, cOs [some 20, some 21, none]), (20, cOt t0), (21, cOt t1)] := by
  refine mj_blk h.1 b_Se_holds_30 rfl trivial ?_
  refine mj_callV h zGood (ev_Ru_size l D cA _ _ 2) v_Ru_size l_Se_holds_33 d_Se_holds_33 rfl ⟨by decide, by decide⟩ ⟨by decide, by decide⟩ [(0, 11), (1, 12), (20, 20), (21, 21), (22, 22)] rfl rfl rfl rfl rfl rfl (Nat.le_of_ble_eq_true rfl) ?_
  rintro _ _ ⟨rfl, rfl⟩
  refine mj_k rfl rfl ?_
  refine mj_icge h.1 (tgt := 116) d_Se_holds_36 (by decide) (fun h1 => ?_) (fun h1 => ?_)
  · refine mj_blk h.1 b_Se_holds_116 rfl trivial ?_
    exact mj_zret h rfl (Or.inl rfl) d_Se_holds_118 (by decide) (by decide) hp
  · refine mj_blk h.1 b_Se_holds_39 rfl trivial ?_
    refine mj_ifeq0 h.1 (tgt := 116) d_Se_holds_41 (by decide) ?_
    refine mj_blk h.1 b_Se_holds_116 rfl trivial ?_
    exact mj_zret h rfl (Or.inl rfl) d_Se_holds_118 (by decide) (by decide) hp
set_option maxRecDepth 100000 in
set_option maxHeartbeats 4000000 in
theorem hH_2_0 {X : mj_X} {post : mj_R} (ht : ts ≤ 80) (h : mj_E zG X l D cA m_Se_holds 3 120 0 0 (fun _ => True) post) (t0 : oT) (hz0 : t0.2.2.2.2.1 ≤ 6) (t1 : oT) (hz1 : t1.2.2.2.2.1 ≤ 6) (b : Bool) (bm bl fm fl : Nat → Int32) (ft : Int32) (hp : ∀ bm1 bl1 bt fm1 fl1 ft, post (some (.int (if vRun tx ts [t0, t1] bm bl fm fl b then 1 else 0))) [(0, cSe), (1, cMk 3 4 bt), (3, cBs bm1), (4, cIs 81 bl1), (2, cMk 5 6 ft), (5, cBs fm1), (6, cIs 81 fl1), (8, cSm 9 10 ts hs nx rr bg en), (9, cIs 80 tx), (10, cIs 32 hd), (11, cRu 12 wy pt 2), (12, cOs [some 20, some 21, none]), (20, cOt t0), (21, cOt t1)]) : mj_W zG X 0 0 30 [(5, .int (nI 0)), (4, .int (if b then 1 else 0)), (3, .int (nI ts)), (0, .ref 0), (1, .ref 11), (2, .ref 8)] [] [(0, cSe), (1, cMk 3 4 (nI ts)), (3, cBs bm), (4, cIs 81 bl), (2, cMk 5 6 ft), (5, cBs fm), (6, cIs 81 fl), (8, cSm 9 10 ts hs nx rr bg en), (9, cIs 80 tx), (10, cIs 32 hd), (11, cRu 12 wy pt 2), (12, cOs [some 20, some 21, none]), (20, cOt t0), (21, cOt t1)] := by
  cases b with
  | false =>
    exact hF_2_0 l D cA wy pt tx ts hd hs nx rr bg en h t0 hz0 t1 hz1 bm bl fm fl (nI ts) ft (hp _ _ _ _ _ _)
  | true =>
    refine hI_2_0 l D cA wy pt tx ts hd hs nx rr bg en ht h t0 hz0 t1 hz1 bm bl fm fl ft ?_
    rw [← if_dec]
    exact hH_2_1 l D cA wy pt tx ts hd hs nx rr bg en ht h t0 hz0 t1 hz1 _ _ _ _ _ _ hp
set_option maxRecDepth 100000 in
set_option maxHeartbeats 4000000 in
theorem ev_Se_holds_2 (ht : ts ≤ 80) (t0 : oT) (hz0 : t0.2.2.2.2.1 ≤ 6) (t1 : oT) (hz1 : t1.2.2.2.2.1 ≤ 6) (bm bl : Nat → Int32) (bt : Int32) (fm fl : Nat → Int32) (ft : Int32) : E_Se_holds l D cA 0 0 [.ref 0, .ref 11, .ref 8] [(0, cSe), (1, cMk 3 4 bt), (3, cBs bm), (4, cIs 81 bl), (2, cMk 5 6 ft), (5, cBs fm), (6, cIs 81 fl), (8, cSm 9 10 ts hs nx rr bg en), (9, cIs 80 tx), (10, cIs 32 hd), (11, cRu 12 wy pt 2), (12, cOs [some 20, some 21, none]), (20, cOt t0), (21, cOt t1)] (fun _ => True) (fun r1 w1 => r1 = some (.int (if vRun tx ts [t0, t1] (kStart (ts + 1) 0 bm) (kSet (ts + 1) 0 (-1) (kStart (ts + 1) 0 bm) bl) fm fl true then 1 else 0)) ∧ ∃ bm1 bl1 bt1 fm1 fl1 ft1, w1 = [(0, cSe), (1, cMk 3 4 bt1), (3, cBs bm1), (4, cIs 81 bl1), (2, cMk 5 6 ft1), (5, cBs fm1), (6, cIs 81 fl1), (8, cSm 9 10 ts hs nx rr bg en), (9, cIs 80 tx), (10, cIs 32 hd), (11, cRu 12 wy pt 2), (12, cOs [some 20, some 21, none]), (20, cOt t0), (21, cOt t1)]) := by
  refine mj_ev (lv := [(0, .ref 0), (1, .ref 11), (2, .ref 8)]) (by decide +kernel) (Nat.le_of_ble_eq_true rfl) rfl (fun X h => ?_)
  refine mj_blk h.1 b_Se_holds_0 rfl trivial ?_
  refine mj_callV h zGood (ev_Sm_size l D cA _ _ _ _ _ _ _ _) v_Sm_size l_Se_holds_1 d_Se_holds_1 rfl ⟨by decide, by decide⟩ ⟨by decide, by decide⟩ [(0, 8), (1, 9), (2, 10)] rfl rfl rfl rfl rfl rfl (Nat.le_of_ble_eq_true rfl) ?_
  rintro _ _ ⟨rfl, rfl⟩
  refine mj_k rfl rfl ?_
  refine mj_blk h.1 b_Se_holds_4 rfl trivial ?_
  refine mj_callV h zGood (ev_Mk_markStartOnly l D cA _ _ _ ts ht) v_Mk_markStartOnly l_Se_holds_10 d_Se_holds_10 rfl ⟨by decide, by decide⟩ ⟨by decide, by decide⟩ [(0, 1), (1, 3), (2, 4)] rfl rfl rfl rfl rfl rfl (Nat.le_of_ble_eq_true rfl) ?_
  rintro _ _ ⟨rfl, rfl⟩
  refine mj_k rfl rfl ?_
  refine mj_blk h.1 b_Se_holds_13 rfl trivial ?_
  refine mj_callV h zGood (ev_Ru_size l D cA _ _ 2) v_Ru_size l_Se_holds_14 d_Se_holds_14 rfl ⟨by decide, by decide⟩ ⟨by decide, by decide⟩ [(0, 11), (1, 12), (20, 20), (21, 21), (22, 22)] rfl rfl rfl rfl rfl rfl (Nat.le_of_ble_eq_true rfl) ?_
  rintro _ _ ⟨rfl, rfl⟩
  refine mj_k rfl rfl ?_
  refine mj_ifle h.1 (tgt := 24) d_Se_holds_17 (by decide) (fun h1 => ?_) (fun h1 => ?_)
  · exact absurd h1 (by decide)
  · refine mj_blk h.1 b_Se_holds_20 rfl trivial ?_
    refine mj_blk h.1 b_Se_holds_25 rfl trivial ?_
    exact hH_2_0 l D cA wy pt tx ts hd hs nx rr bg en ht h t0 hz0 t1 hz1 true _ _ _ _ _ (fun _ _ _ _ _ _ => ⟨rfl, _, _, _, _, _, _, rfl⟩)
set_option maxRecDepth 100000 in
set_option maxHeartbeats 4000000 in
theorem hH_3_3 {X : mj_X} {post : mj_R} (h : mj_E zG X l D cA m_Se_holds 3 120 0 0 (fun _ => True) post) (t0 : oT) (hz0 : t0.2.2.2.2.1 ≤ 6) (t1 : oT) (hz1 : t1.2.2.2.2.1 ≤ 6) (t2 : oT) (hz2 : t2.2.2.2.2.1 ≤ 6) (b : Bool) (hp : (∀ bm bl bt fm fl ft, post (some (.int (if b then 1 else 0))) [(0, cSe), (1, cMk 3 4 bt), (3, cBs bm), (4, cIs 81 bl), (2, cMk 5 6 ft), (5, cBs fm), (6, cIs 81 fl), (8, cSm 9 10 ts hs nx rr bg en), (9, cIs 80 tx), (10, cIs 32 hd), (11, cRu 12 wy pt 3), (12, cOs [some 20, some 21, some 22]), (20, cOt t0), (21, cOt t1), (22, cOt t2)])) (bm bl fm fl : Nat → Int32) (bt ft : Int32) : mj_W zG X 0 0 30 [(5, .int (nI 3)), (4, .int (if b then 1 else 0)), (3, .int (nI ts)), (0, .ref 0), (1, .ref 11), (2, .ref 8)] [] [(0, cSe), (1, cMk 3 4 bt), (3, cBs bm), (4, cIs 81 bl), (2, cMk 5 6 ft), (5, cBs fm), (6, cIs 81 fl), (8, cSm 9 10 ts hs nx rr bg en), (9, cIs 80 tx), (10, cIs 32 hd), (11, cRu 12 wy pt 3), (12, cOs [some 20, some 21, some 22]), (20, cOt t0), (21, cOt t1), (22, cOt t2)] := by
  refine mj_blk h.1 b_Se_holds_30 rfl trivial ?_
  refine mj_callV h zGood (ev_Ru_size l D cA _ _ 3) v_Ru_size l_Se_holds_33 d_Se_holds_33 rfl ⟨by decide, by decide⟩ ⟨by decide, by decide⟩ [(0, 11), (1, 12), (20, 20), (21, 21), (22, 22)] rfl rfl rfl rfl rfl rfl (Nat.le_of_ble_eq_true rfl) ?_
  rintro _ _ ⟨rfl, rfl⟩
  refine mj_k rfl rfl ?_
  refine mj_icge h.1 (tgt := 116) d_Se_holds_36 (by decide) (fun h1 => ?_) (fun h1 => ?_)
  · refine mj_blk h.1 b_Se_holds_116 rfl trivial ?_
    exact mj_zret h rfl (mj_z01) d_Se_holds_118 (by decide) (by decide) (hp _ _ _ _ _ _)
  · exact absurd (by decide) h1
set_option maxRecDepth 100000 in
set_option maxHeartbeats 4000000 in
theorem hI_3_2 {X : mj_X} {post : mj_R} (ht : ts ≤ 80) (h : mj_E zG X l D cA m_Se_holds 3 120 0 0 (fun _ => True) post) (t0 : oT) (hz0 : t0.2.2.2.2.1 ≤ 6) (t1 : oT) (hz1 : t1.2.2.2.2.1 ≤ 6) (t2 : oT) (hz2 : t2.2.2.2.2.1 ≤ 6) (bm bl fm fl : Nat → Int32) (ft : Int32) (K : mj_W zG X 0 0 30 [(5, .int (nI 3)), (4, .int (if kAny (kSet (ts + 1) 0 (-1) (vBm t2 ts bm bl (vFm t2 tx ts fm) (kSet (ts + 1) 0 (-1) (vFm t2 tx ts fm) fl)) (vBl t2 ts bm bl)) ts 0 (nI ts) then 1 else 0)), (3, .int (nI ts)), (0, .ref 0), (1, .ref 11), (2, .ref 8)] [] [(0, cSe), (1, cMk 3 4 (nI ts)), (3, cBs (vBm t2 ts bm bl (vFm t2 tx ts fm) (kSet (ts + 1) 0 (-1) (vFm t2 tx ts fm) fl))), (4, cIs 81 (kSet (ts + 1) 0 (-1) (vBm t2 ts bm bl (vFm t2 tx ts fm) (kSet (ts + 1) 0 (-1) (vFm t2 tx ts fm) fl)) (vBl t2 ts bm bl))), (2, cMk 5 6 (nI ts)), (5, cBs (vFm t2 tx ts fm)), (6, cIs 81 (kSet (ts + 1) 0 (-1) (vFm t2 tx ts fm) fl)), (8, cSm 9 10 ts hs nx rr bg en), (9, cIs 80 tx), (10, cIs 32 hd), (11, cRu 12 wy pt 3), (12, cOs [some 20, some 21, some 22]), (20, cOt t0), (21, cOt t1), (22, cOt t2)]) : mj_W zG X 0 0 30 [(5, .int (nI 2)), (4, .int 1), (3, .int (nI ts)), (0, .ref 0), (1, .ref 11), (2, .ref 8)] [] [(0, cSe), (1, cMk 3 4 (nI ts)), (3, cBs bm), (4, cIs 81 bl), (2, cMk 5 6 ft), (5, cBs fm), (6, cIs 81 fl), (8, cSm 9 10 ts hs nx rr bg en), (9, cIs 80 tx), (10, cIs 32 hd), (11, cRu 12 wy pt 3), (12, cOs [some 20, some 21, some 22]), (20, cOt t0), (21, cOt t1), (22, cOt t2)] := by
  refine mj_blk h.1 b_Se_holds_30 rfl trivial ?_
  refine mj_callV h zGood (ev_Ru_size l D cA _ _ 3) v_Ru_size l_Se_holds_33 d_Se_holds_33 rfl ⟨by decide, by decide⟩ ⟨by decide, by decide⟩ [(0, 11), (1, 12), (20, 20), (21, 21), (22, 22)] rfl rfl rfl rfl rfl rfl (Nat.le_of_ble_eq_true rfl) ?_
  rintro _ _ ⟨rfl, rfl⟩
  refine mj_k rfl rfl ?_
  refine mj_icge h.1 (tgt := 116) d_Se_holds_36 (by decide) (fun h1 => ?_) (fun h1 => ?_)
  · exact absurd h1 (by decide)
  · refine mj_blk h.1 b_Se_holds_39 rfl trivial ?_
    refine mj_ifeq1 h.1 (tgt := 116) d_Se_holds_41 (by decide) ?_
    refine mj_blk h.1 b_Se_holds_44 rfl trivial ?_
    refine mj_callV h zGood (ev_Ru_at l D cA _ _ 3 [some 20, some 21, some 22] (by decide) 2 22 (by decide) rfl) v_Ru_at l_Se_holds_47 d_Se_holds_47 rfl ⟨by decide, by decide⟩ ⟨by decide, by decide⟩ [(0, 11), (1, 12), (20, 20), (21, 21), (22, 22)] rfl rfl rfl rfl rfl rfl (Nat.le_of_ble_eq_true rfl) ?_
    rintro _ _ ⟨rfl, rfl⟩
    refine mj_k rfl rfl ?_
    refine mj_blk h.1 b_Se_holds_50 rfl trivial ?_
    refine mj_ifnonnull_r h.1 d_Se_holds_54 (tgt := 59) (by decide) ?_
    refine mj_blk h.1 b_Se_holds_59 rfl trivial ?_
    refine mj_callV h zGood (ev_Se_find l D cA _ _ _ _ t2.2.2.2.2.1 _ _ _ ts _ _ _ _ _ _ hz2 ht _ _ _ _ _ _) v_Se_find l_Se_holds_63 d_Se_holds_63 rfl ⟨by decide, by decide⟩ ⟨by decide, by decide⟩ [(0, 0), (1, 1), (2, 2), (3, 3), (4, 4), (5, 5), (6, 6), (7, 22), (8, 8), (9, 9), (10, 10)] rfl rfl rfl rfl rfl rfl (Nat.le_of_ble_eq_true rfl) ?_
    rintro _ _ ⟨rfl, rfl⟩
    refine mj_k rfl rfl ?_
    refine mj_blk h.1 b_Se_holds_66 rfl trivial ?_
    first | refine mj_ifeqB h.1 (tgt := 84) d_Se_holds_71 (by decide) (fun h3 => ?_) (fun h3 => ?_) | refine mj_ifeq h.1 (tgt := 84) d_Se_holds_71 (by decide) (fun h3 => ?_) (fun h3 => ?_)
    · refine mj_blk h.1 b_Se_holds_84 rfl trivial ?_
      refine mj_callV h zGood (ev_Se_moveBases l D cA _ _ _ _ t2.2.2.2.2.1 _ _ ts ht _ _ _ _) v_Se_moveBases l_Se_holds_88 d_Se_holds_88 rfl ⟨by decide, by decide⟩ ⟨by decide, by decide⟩ [(0, 0), (1, 1), (2, 2), (3, 3), (4, 4), (5, 5), (6, 6), (7, 22), (8, 8), (9, 9), (10, 10)] rfl rfl rfl rfl rfl rfl (Nat.le_of_ble_eq_true rfl) ?_
      rintro _ _ ⟨rfl, rfl⟩
      refine mj_k rfl rfl ?_
      refine mj_blk h.1 b_Se_holds_91 rfl trivial ?_
      refine mj_callV h zGood (ev_Mk_settle l D cA _ _ _ ts ht) v_Mk_settle l_Se_holds_96 d_Se_holds_96 rfl ⟨by decide, by decide⟩ ⟨by decide, by decide⟩ [(0, 1), (1, 3), (2, 4)] rfl rfl rfl rfl rfl rfl (Nat.le_of_ble_eq_true rfl) ?_
      rintro _ _ ⟨rfl, rfl⟩
      refine mj_k rfl rfl ?_
      refine mj_blk h.1 b_Se_holds_99 rfl trivial ?_
      refine mj_callV h zGood (ev_Mk_isAnyIn l D cA _ _ ts ht _ _) v_Mk_isAnyIn l_Se_holds_105 d_Se_holds_105 rfl ⟨by decide, by decide⟩ ⟨by decide, by decide⟩ [(0, 1), (1, 3), (2, 4)] rfl rfl rfl rfl rfl rfl (Nat.le_of_ble_eq_true rfl) ?_
      rintro _ _ ⟨rfl, rfl⟩
      refine mj_k rfl rfl ?_
      refine mj_blk h.1 b_Se_holds_108 rfl trivial ?_
      refine mj_lpk [0, 1, 3, 4, 5, 6] rfl ?_
      have k2 := K
      unfold vBm vBl at k2
      rw [if_neg h3, if_neg h3] at k2
      exact k2
    · refine mj_blk h.1 b_Se_holds_74 rfl trivial ?_
      refine mj_callV h zGood (ev_Se_dropBases l D cA _ _ _ _ t2.2.2.2.2.1 _ _ ts ht _ _ _ _) v_Se_dropBases l_Se_holds_78 d_Se_holds_78 rfl ⟨by decide, by decide⟩ ⟨by decide, by decide⟩ [(0, 0), (1, 1), (2, 2), (3, 3), (4, 4), (5, 5), (6, 6), (7, 22), (8, 8), (9, 9), (10, 10)] rfl rfl rfl rfl rfl rfl (Nat.le_of_ble_eq_true rfl) ?_
      rintro _ _ ⟨rfl, rfl⟩
      refine mj_k rfl rfl ?_
      refine mj_blk h.1 b_Se_holds_81 rfl trivial ?_
      refine mj_blk h.1 b_Se_holds_91 rfl trivial ?_
      refine mj_callV h zGood (ev_Mk_settle l D cA _ _ _ ts ht) v_Mk_settle l_Se_holds_96 d_Se_holds_96 rfl ⟨by decide, by decide⟩ ⟨by decide, by decide⟩ [(0, 1), (1, 3), (2, 4)] rfl rfl rfl rfl rfl rfl (Nat.le_of_ble_eq_true rfl) ?_
      rintro _ _ ⟨rfl, rfl⟩
      refine mj_k rfl rfl ?_
      refine mj_blk h.1 b_Se_holds_99 rfl trivial ?_
      refine mj_callV h zGood (ev_Mk_isAnyIn l D cA _ _ ts ht _ _) v_Mk_isAnyIn l_Se_holds_105 d_Se_holds_105 rfl ⟨by decide, by decide⟩ ⟨by decide, by decide⟩ [(0, 1), (1, 3), (2, 4)] rfl rfl rfl rfl rfl rfl (Nat.le_of_ble_eq_true rfl) ?_
      rintro _ _ ⟨rfl, rfl⟩
      refine mj_k rfl rfl ?_
      refine mj_blk h.1 b_Se_holds_108 rfl trivial ?_
      refine mj_lpk [0, 1, 3, 4, 5, 6] rfl ?_
      have k2 := K
      unfold vBm vBl at k2
      rw [if_pos h3, if_pos h3] at k2
      exact k2
set_option maxRecDepth 100000 in
set_option maxHeartbeats 4000000 in
theorem hF_3_2 {X : mj_X} {post : mj_R} (h : mj_E zG X l D cA m_Se_holds 3 120 0 0 (fun _ => True) post) (t0 : oT) (hz0 : t0.2.2.2.2.1 ≤ 6) (t1 : oT) (hz1 : t1.2.2.2.2.1 ≤ 6) (t2 : oT) (hz2 : t2.2.2.2.2.1 ≤ 6) (bm bl fm fl : Nat → Int32) (bt ft : Int32) (hp : post (some (.int 0)) [(0, cSe), (1, cMk 3 4 bt), (3, cBs bm), (4, cIs 81 bl), (2, cMk 5 6 ft), (5, cBs fm), (6, cIs 81 fl), (8, cSm 9 10 ts hs nx rr bg en), (9, cIs 80 tx), (10, cIs 32 hd), (11, cRu 12 wy pt 3), (12, cOs [some 20, some 21, some 22]), (20, cOt t0), (21, cOt t1), (22, cOt t2)]) : mj_W zG X 0 0 30 [(5, .int (nI 2)), (4, .int 0), (3, .int (nI ts)), (0, .ref 0), (1, .ref 11), (2, .ref 8)] [] [(0, cSe), (1, cMk 3 4 bt), (3, cBs bm), (4, cIs 81 bl), (2, cMk 5 6 ft), (5, cBs fm), (6, cIs 81 fl), (8, cSm 9 10 ts hs nx rr bg en), (9, cIs 80 tx), (10, cIs 32 hd), (11, cRu 12 wy pt 3), (12, cOs [some 20, some 21, some 22]), (20, cOt t0), (21, cOt t1), (22, cOt t2)] := by
  refine mj_blk h.1 b_Se_holds_30 rfl trivial ?_
  refine mj_callV h zGood (ev_Ru_size l D cA _ _ 3) v_Ru_size l_Se_holds_33 d_Se_holds_33 rfl ⟨by decide, by decide⟩ ⟨by decide, by decide⟩ [(0, 11), (1, 12), (20, 20), (21, 21), (22, 22)] rfl rfl rfl rfl rfl rfl (Nat.le_of_ble_eq_true rfl) ?_
  rintro _ _ ⟨rfl, rfl⟩
  refine mj_k rfl rfl ?_
  refine mj_icge h.1 (tgt := 116) d_Se_holds_36 (by decide) (fun h1 => ?_) (fun h1 => ?_)
  · refine mj_blk h.1 b_Se_holds_116 rfl trivial ?_
    exact mj_zret h rfl (Or.inl rfl) d_Se_holds_118 (by decide) (by decide) hp
  · refine mj_blk h.1 b_Se_holds_39 rfl trivial ?_
    refine mj_ifeq0 h.1 (tgt := 116) d_Se_holds_41 (by decide) ?_
    refine mj_blk h.1 b_Se_holds_116 rfl trivial ?_
    exact mj_zret h rfl (Or.inl rfl) d_Se_holds_118 (by decide) (by decide) hp
set_option maxRecDepth 100000 in
set_option maxHeartbeats 4000000 in
theorem hH_3_2 {X : mj_X} {post : mj_R} (ht : ts ≤ 80) (h : mj_E zG X l D cA m_Se_holds 3 120 0 0 (fun _ => True) post) (t0 : oT) (hz0 : t0.2.2.2.2.1 ≤ 6) (t1 : oT) (hz1 : t1.2.2.2.2.1 ≤ 6) (t2 : oT) (hz2 : t2.2.2.2.2.1 ≤ 6) (b : Bool) (bm bl fm fl : Nat → Int32) (ft : Int32) (hp : ∀ bm1 bl1 bt fm1 fl1 ft, post (some (.int (if vRun tx ts [t2] bm bl fm fl b then 1 else 0))) [(0, cSe), (1, cMk 3 4 bt), (3, cBs bm1), (4, cIs 81 bl1), (2, cMk 5 6 ft), (5, cBs fm1), (6, cIs 81 fl1), (8, cSm 9 10 ts hs nx rr bg en), (9, cIs 80 tx), (10, cIs 32 hd), (11, cRu 12 wy pt 3), (12, cOs [some 20, some 21, some 22]), (20, cOt t0), (21, cOt t1), (22, cOt t2)]) : mj_W zG X 0 0 30 [(5, .int (nI 2)), (4, .int (if b then 1 else 0)), (3, .int (nI ts)), (0, .ref 0), (1, .ref 11), (2, .ref 8)] [] [(0, cSe), (1, cMk 3 4 (nI ts)), (3, cBs bm), (4, cIs 81 bl), (2, cMk 5 6 ft), (5, cBs fm), (6, cIs 81 fl), (8, cSm 9 10 ts hs nx rr bg en), (9, cIs 80 tx), (10, cIs 32 hd), (11, cRu 12 wy pt 3), (12, cOs [some 20, some 21, some 22]), (20, cOt t0), (21, cOt t1), (22, cOt t2)] := by
  cases b with
  | false =>
    exact hF_3_2 l D cA wy pt tx ts hd hs nx rr bg en h t0 hz0 t1 hz1 t2 hz2 bm bl fm fl (nI ts) ft (hp _ _ _ _ _ _)
  | true =>
    refine hI_3_2 l D cA wy pt tx ts hd hs nx rr bg en ht h t0 hz0 t1 hz1 t2 hz2 bm bl fm fl ft ?_
    rw [← if_dec]
    exact hH_3_3 l D cA wy pt tx ts hd hs nx rr bg en h t0 hz0 t1 hz1 t2 hz2 _ hp _ _ _ _ _ _
set_option maxRecDepth 100000 in
set_option maxHeartbeats 4000000 in
theorem hI_3_1 {X : mj_X} {post : mj_R} (ht : ts ≤ 80) (h : mj_E zG X l D cA m_Se_holds 3 120 0 0 (fun _ => True) post) (t0 : oT) (hz0 : t0.2.2.2.2.1 ≤ 6) (t1 : oT) (hz1 : t1.2.2.2.2.1 ≤ 6) (t2 : oT) (hz2 : t2.2.2.2.2.1 ≤ 6) (bm bl fm fl : Nat → Int32) (ft : Int32) (K : mj_W zG X 0 0 30 [(5, .int (nI 2)), (4, .int (if kAny (kSet (ts + 1) 0 (-1) (vBm t1 ts bm bl (vFm t1 tx ts fm) (kSet (ts + 1) 0 (-1) (vFm t1 tx ts fm) fl)) (vBl t1 ts bm bl)) ts 0 (nI ts) then 1 else 0)), (3, .int (nI ts)), (0, .ref 0), (1, .ref 11), (2, .ref 8)] [] [(0, cSe), (1, cMk 3 4 (nI ts)), (3, cBs (vBm t1 ts bm bl (vFm t1 tx ts fm) (kSet (ts + 1) 0 (-1) (vFm t1 tx ts fm) fl))), (4, cIs 81 (kSet (ts + 1) 0 (-1) (vBm t1 ts bm bl (vFm t1 tx ts fm) (kSet (ts + 1) 0 (-1) (vFm t1 tx ts fm) fl)) (vBl t1 ts bm bl))), (2, cMk 5 6 (nI ts)), (5, cBs (vFm t1 tx ts fm)), (6, cIs 81 (kSet (ts + 1) 0 (-1) (vFm t1 tx ts fm) fl)), (8, cSm 9 10 ts hs nx rr bg en), (9, cIs 80 tx), (10, cIs 32 hd), (11, cRu 12 wy pt 3), (12, cOs [some 20, some 21, some 22]), (20, cOt t0), (21, cOt t1), (22, cOt t2)]) : mj_W zG X 0 0 30 [(5, .int (nI 1)), (4, .int 1), (3, .int (nI ts)), (0, .ref 0), (1, .ref 11), (2, .ref 8)] [] [(0, cSe), (1, cMk 3 4 (nI ts)), (3, cBs bm), (4, cIs 81 bl), (2, cMk 5 6 ft), (5, cBs fm), (6, cIs 81 fl), (8, cSm 9 10 ts hs nx rr bg en), (9, cIs 80 tx), (10, cIs 32 hd), (11, cRu 12 wy pt 3), (12, cOs [some 20, some 21, some 22]), (20, cOt t0), (21, cOt t1), (22, cOt t2)] := by
  refine mj_blk h.1 b_Se_holds_30 rfl trivial ?_
  refine mj_callV h zGood (ev_Ru_size l D cA _ _ 3) v_Ru_size l_Se_holds_33 d_Se_holds_33 rfl ⟨by decide, by decide⟩ ⟨by decide, by decide⟩ [(0, 11), (1, 12), (20, 20), (21, 21), (22, 22)] rfl rfl rfl rfl rfl rfl (Nat.le_of_ble_eq_true rfl) ?_
  rintro _ _ ⟨rfl, rfl⟩
  refine mj_k rfl rfl ?_
  refine mj_icge h.1 (tgt := 116) d_Se_holds_36 (by decide) (fun h1 => ?_) (fun h1 => ?_)
  · exact absurd h1 (by decide)
  · refine mj_blk h.1 b_Se_holds_39 rfl trivial ?_
    refine mj_ifeq1 h.1 (tgt := 116) d_Se_holds_41 (by decide) ?_
    refine mj_blk h.1 b_Se_holds_44 rfl trivial ?_
    refine mj_callV h zGood (ev_Ru_at l D cA _ _ 3 [some 20, some 21, some 22] (by decide) 1 21 (by decide) rfl) v_Ru_at l_Se_holds_47 d_Se_holds_47 rfl ⟨by decide, by decide⟩ ⟨by decide, by decide⟩ [(0, 11), (1, 12), (20, 20), (21, 21), (22, 22)] rfl rfl rfl rfl rfl rfl (Nat.le_of_ble_eq_true rfl) ?_
    rintro _ _ ⟨rfl, rfl⟩
    refine mj_k rfl rfl ?_
    refine mj_blk h.1 b_Se_holds_50 rfl trivial ?_
    refine mj_ifnonnull_r h.1 d_Se_holds_54 (tgt := 59) (by decide) ?_
    refine mj_blk h.1 b_Se_holds_59 rfl trivial ?_
    refine mj_callV h zGood (ev_Se_find l D cA _ _ _ _ t1.2.2.2.2.1 _ _ _ ts _ _ _ _ _ _ hz1 ht _ _ _ _ _ _) v_Se_find l_Se_holds_63 d_Se_holds_63 rfl ⟨by decide, by decide⟩ ⟨by decide, by decide⟩ [(0, 0), (1, 1), (2, 2), (3, 3), (4, 4), (5, 5), (6, 6), (7, 21), (8, 8), (9, 9), (10, 10)] rfl rfl rfl rfl rfl rfl (Nat.le_of_ble_eq_true rfl) ?_
    rintro _ _ ⟨rfl, rfl⟩
    refine mj_k rfl rfl ?_
    refine mj_blk h.1 b_Se_holds_66 rfl trivial ?_
    first | refine mj_ifeqB h.1 (tgt := 84) d_Se_holds_71 (by decide) (fun h3 => ?_) (fun h3 => ?_) | refine mj_ifeq h.1 (tgt := 84) d_Se_holds_71 (by decide) (fun h3 => ?_) (fun h3 => ?_)
    · refine mj_blk h.1 b_Se_holds_84 rfl trivial ?_
      refine mj_callV h zGood (ev_Se_moveBases l D cA _ _ _ _ t1.2.2.2.2.1 _ _ ts ht _ _ _ _) v_Se_moveBases l_Se_holds_88 d_Se_holds_88 rfl ⟨by decide, by decide⟩ ⟨by decide, by decide⟩ [(0, 0), (1, 1), (2, 2), (3, 3), (4, 4), (5, 5), (6, 6), (7, 21), (8, 8), (9, 9), (10, 10)] rfl rfl rfl rfl rfl rfl (Nat.le_of_ble_eq_true rfl) ?_
      rintro _ _ ⟨rfl, rfl⟩
      refine mj_k rfl rfl ?_
      refine mj_blk h.1 b_Se_holds_91 rfl trivial ?_
      refine mj_callV h zGood (ev_Mk_settle l D cA _ _ _ ts ht) v_Mk_settle l_Se_holds_96 d_Se_holds_96 rfl ⟨by decide, by decide⟩ ⟨by decide, by decide⟩ [(0, 1), (1, 3), (2, 4)] rfl rfl rfl rfl rfl rfl (Nat.le_of_ble_eq_true rfl) ?_
      rintro _ _ ⟨rfl, rfl⟩
      refine mj_k rfl rfl ?_
      refine mj_blk h.1 b_Se_holds_99 rfl trivial ?_
      refine mj_callV h zGood (ev_Mk_isAnyIn l D cA _ _ ts ht _ _) v_Mk_isAnyIn l_Se_holds_105 d_Se_holds_105 rfl ⟨by decide, by decide⟩ ⟨by decide, by decide⟩ [(0, 1), (1, 3), (2, 4)] rfl rfl rfl rfl rfl rfl (Nat.le_of_ble_eq_true rfl) ?_
      rintro _ _ ⟨rfl, rfl⟩
      refine mj_k rfl rfl ?_
      refine mj_blk h.1 b_Se_holds_108 rfl trivial ?_
      refine mj_lpk [0, 1, 3, 4, 5, 6] rfl ?_
      have k2 := K
      unfold vBm vBl at k2
      rw [if_neg h3, if_neg h3] at k2
      exact k2
    · refine mj_blk h.1 b_Se_holds_74 rfl trivial ?_
      refine mj_callV h zGood (ev_Se_dropBases l D cA _ _ _ _ t1.2.2.2.2.1 _ _ ts ht _ _ _ _) v_Se_dropBases l_Se_holds_78 d_Se_holds_78 rfl ⟨by decide, by decide⟩ ⟨by decide, by decide⟩ [(0, 0), (1, 1), (2, 2), (3, 3), (4, 4), (5, 5), (6, 6), (7, 21), (8, 8), (9, 9), (10, 10)] rfl rfl rfl rfl rfl rfl (Nat.le_of_ble_eq_true rfl) ?_
      rintro _ _ ⟨rfl, rfl⟩
      refine mj_k rfl rfl ?_
      refine mj_blk h.1 b_Se_holds_81 rfl trivial ?_
      refine mj_blk h.1 b_Se_holds_91 rfl trivial ?_
      refine mj_callV h zGood (ev_Mk_settle l D cA _ _ _ ts ht) v_Mk_settle l_Se_holds_96 d_Se_holds_96 rfl ⟨by decide, by decide⟩ ⟨by decide, by decide⟩ [(0, 1), (1, 3), (2, 4)] rfl rfl rfl rfl rfl rfl (Nat.le_of_ble_eq_true rfl) ?_
      rintro _ _ ⟨rfl, rfl⟩
      refine mj_k rfl rfl ?_
      refine mj_blk h.1 b_Se_holds_99 rfl trivial ?_
      refine mj_callV h zGood (ev_Mk_isAnyIn l D cA _ _ ts ht _ _) v_Mk_isAnyIn l_Se_holds_105 d_Se_holds_105 rfl ⟨by decide, by decide⟩ ⟨by decide, by decide⟩ [(0, 1), (1, 3), (2, 4)] rfl rfl rfl rfl rfl rfl (Nat.le_of_ble_eq_true rfl) ?_
      rintro _ _ ⟨rfl, rfl⟩
      refine mj_k rfl rfl ?_
      refine mj_blk h.1 b_Se_holds_108 rfl trivial ?_
      refine mj_lpk [0, 1, 3, 4, 5, 6] rfl ?_
      have k2 := K
      unfold vBm vBl at k2
      rw [if_pos h3, if_pos h3] at k2
      exact k2
set_option maxRecDepth 100000 in
set_option maxHeartbeats 4000000 in
theorem hF_3_1 {X : mj_X} {post : mj_R} (h : mj_E zG X l D cA m_Se_holds 3 120 0 0 (fun _ => True) post) (t0 : oT) (hz0 : t0.2.2.2.2.1 ≤ 6) (t1 : oT) (hz1 : t1.2.2.2.2.1 ≤ 6) (t2 : oT) (hz2 : t2.2.2.2.2.1 ≤ 6) (bm bl fm fl : Nat → Int32) (bt ft : Int32) (hp : post (some (.int 0)) [(0, cSe), (1, cMk 3 4 bt), (3, cBs bm), (4, cIs 81 bl), (2, cMk 5 6 ft), (5, cBs fm), (6, cIs 81 fl), (8, cSm 9 10 ts hs nx rr bg en), (9, cIs 80 tx), (10, cIs 32 hd), (11, cRu 12 wy pt 3), (12, cOs [some 20, some 21, some 22]), (20, cOt t0), (21, cOt t1), (22, cOt t2)]) : mj_W zG X 0 0 30 [(5, .int (nI 1)), (4, .int 0), (3, .int (nI ts)), (0, .ref 0), (1, .ref 11), (2, .ref 8)] [] [(0, cSe), (1, cMk 3 4 bt), (3, cBs bm), (4, cIs 81 bl), (2, cMk 5 6 ft), (5, cBs fm), (6, cIs 81 fl), (8, cSm 9 10 ts hs nx rr bg en), (9, cIs 80 tx), (10, cIs 32 hd), (11, cRu 12 wy pt 3), (12, cOs [some 20, some 21, some 22]), (20, cOt t0), (21, cOt t1), (22, cOt t2)] := by
  refine mj_blk h.1 b_Se_holds_30 rfl trivial ?_
  refine mj_callV h zGood (ev_Ru_size l D cA _ _ 3) v_Ru_size l_Se_holds_33 d_Se_holds_33 rfl ⟨by decide, by decide⟩ ⟨by decide, by decide⟩ [(0, 11), (1, 12), (20, 20), (21, 21), (22, 22)] rfl rfl rfl rfl rfl rfl (Nat.le_of_ble_eq_true rfl) ?_
  rintro _ _ ⟨rfl, rfl⟩
  refine mj_k rfl rfl ?_
  refine mj_icge h.1 (tgt := 116) d_Se_holds_36 (by decide) (fun h1 => ?_) (fun h1 => ?_)
  · refine mj_blk h.1 b_Se_holds_116 rfl trivial ?_
    exact mj_zret h rfl (Or.inl rfl) d_Se_holds_118 (by decide) (by decide) hp
  · refine mj_blk h.1 b_Se_holds_39 rfl trivial ?_
    refine mj_ifeq0 h.1 (tgt := 116) d_Se_holds_41 (by decide) ?_
    refine mj_blk h.1 b_Se_holds_116 rfl trivial ?_
    exact mj_zret h rfl (Or.inl rfl) d_Se_holds_118 (by decide) (by decide) hp
set_option maxRecDepth 100000 in
set_option maxHeartbeats 4000000 in
theorem hH_3_1 {X : mj_X} {post : mj_R} (ht : ts ≤ 80) (h : mj_E zG X l D cA m_Se_holds 3 120 0 0 (fun _ => True) post) (t0 : oT) (hz0 : t0.2.2.2.2.1 ≤ 6) (t1 : oT) (hz1 : t1.2.2.2.2.1 ≤ 6) (t2 : oT) (hz2 : t2.2.2.2.2.1 ≤ 6) (b : Bool) (bm bl fm fl : Nat → Int32) (ft : Int32) (hp : ∀ bm1 bl1 bt fm1 fl1 ft, post (some (.int (if vRun tx ts [t1, t2] bm bl fm fl b then 1 else 0))) [(0, cSe), (1, cMk 3 4 bt), (3, cBs bm1), (4, cIs 81 bl1), (2, cMk 5 6 ft), (5, cBs fm1), (6, cIs 81 fl1), (8, cSm 9 10 ts hs nx rr bg en), (9, cIs 80 tx), (10, cIs 32 hd), (11, cRu 12 wy pt 3), (12, cOs [some 20, some 21, some 22]), (20, cOt t0), (21, cOt t1), (22, cOt t2)]) : mj_W zG X 0 0 30 [(5, .int (nI 1)), (4, .int (if b then 1 else 0)), (3, .int (nI ts)), (0, .ref 0), (1, .ref 11), (2, .ref 8)] [] [(0, cSe), (1, cMk 3 4 (nI ts)), (3, cBs bm), (4, cIs 81 bl), (2, cMk 5 6 ft), (5, cBs fm), (6, cIs 81 fl), (8, cSm 9 10 ts hs nx rr bg en), (9, cIs 80 tx), (10, cIs 32 hd), (11, cRu 12 wy pt 3), (12, cOs [some 20, some 21, some 22]), (20, cOt t0), (21, cOt t1), (22, cOt t2)] := by
  cases b with
  | false =>
    exact hF_3_1 l D cA wy pt tx ts hd hs nx rr bg en h t0 hz0 t1 hz1 t2 hz2 bm bl fm fl (nI ts) ft (hp _ _ _ _ _ _)
  | true =>
    refine hI_3_1 l D cA wy pt tx ts hd hs nx rr bg en ht h t0 hz0 t1 hz1 t2 hz2 bm bl fm fl ft ?_
    rw [← if_dec]
    exact hH_3_2 l D cA wy pt tx ts hd hs nx rr bg en ht h t0 hz0 t1 hz1 t2 hz2 _ _ _ _ _ _ hp
set_option maxRecDepth 100000 in
set_option maxHeartbeats 4000000 in
theorem hI_3_0 {X : mj_X} {post : mj_R} (ht : ts ≤ 80) (h : mj_E zG X l D cA m_Se_holds 3 120 0 0 (fun _ => True) post) (t0 : oT) (hz0 : t0.2.2.2.2.1 ≤ 6) (t1 : oT) (hz1 : t1.2.2.2.2.1 ≤ 6) (t2 : oT) (hz2 : t2.2.2.2.2.1 ≤ 6) (bm bl fm fl : Nat → Int32) (ft : Int32) (K : mj_W zG X 0 0 30 [(5, .int (nI 1)), (4, .int (if kAny (kSet (ts + 1) 0 (-1) (vBm t0 ts bm bl (vFm t0 tx ts fm) (kSet (ts + 1) 0 (-1) (vFm t0 tx ts fm) fl)) (vBl t0 ts bm bl)) ts 0 (nI ts) then 1 else 0)), (3, .int (nI ts)), (0, .ref 0), (1, .ref 11), (2, .ref 8)] [] [(0, cSe), (1, cMk 3 4 (nI ts)), (3, cBs (vBm t0 ts bm bl (vFm t0 tx ts fm) (kSet (ts + 1) 0 (-1) (vFm t0 tx ts fm) fl))), (4, cIs 81 (kSet (ts + 1) 0 (-1) (vBm t0 ts bm bl (vFm t0 tx ts fm) (kSet (ts + 1) 0 (-1) (vFm t0 tx ts fm) fl)) (vBl t0 ts bm bl))), (2, cMk 5 6 (nI ts)), (5, cBs (vFm t0 tx ts fm)), (6, cIs 81 (kSet (ts + 1) 0 (-1) (vFm t0 tx ts fm) fl)), (8, cSm 9 10 ts hs nx rr bg en), (9, cIs 80 tx), (10, cIs 32 hd), (11, cRu 12 wy pt 3), (12, cOs [some 20, some 21, some 22]), (20, cOt t0), (21, cOt t1), (22, cOt t2)]) : mj_W zG X 0 0 30 [(5, .int (nI 0)), (4, .int 1), (3, .int (nI ts)), (0, .ref 0), (1, .ref 11), (2, .ref 8)] [] [(0, cSe), (1, cMk 3 4 (nI ts)), (3, cBs bm), (4, cIs 81 bl), (2, cMk 5 6 ft), (5, cBs fm), (6, cIs 81 fl), (8, cSm 9 10 ts hs nx rr bg en), (9, cIs 80 tx), (10, cIs 32 hd), (11, cRu 12 wy pt 3), (12, cOs [some 20, some 21, some 22]), (20, cOt t0), (21, cOt t1), (22, cOt t2)] := by
  refine mj_blk h.1 b_Se_holds_30 rfl trivial ?_
  refine mj_callV h zGood (ev_Ru_size l D cA _ _ 3) v_Ru_size l_Se_holds_33 d_Se_holds_33 rfl ⟨by decide, by decide⟩ ⟨by decide, by decide⟩ [(0, 11), (1, 12), (20, 20), (21, 21), (22, 22)] rfl rfl rfl rfl rfl rfl (Nat.le_of_ble_eq_true rfl) ?_
  rintro _ _ ⟨rfl, rfl⟩
  refine mj_k rfl rfl ?_
  refine mj_icge h.1 (tgt := 116) d_Se_holds_36 (by decide) (fun h1 => ?_) (fun h1 => ?_)
  · exact absurd h1 (by decide)
  · refine mj_blk h.1 b_Se_holds_39 rfl trivial ?_
    refine mj_ifeq1 h.1 (tgt := 116) d_Se_holds_41 (by decide) ?_
    refine mj_blk h.1 b_Se_holds_44 rfl trivial ?_
    refine mj_callV h zGood (ev_Ru_at l D cA _ _ 3 [some 20, some 21, some 22] (by decide) 0 20 (by decide) rfl) v_Ru_at l_Se_holds_47 d_Se_holds_47 rfl ⟨by decide, by decide⟩ ⟨by decide, by decide⟩ [(0, 11), (1, 12), (20, 20), (21, 21), (22, 22)] rfl rfl rfl rfl rfl rfl (Nat.le_of_ble_eq_true rfl) ?_
    rintro _ _ ⟨rfl, rfl⟩
    refine mj_k rfl rfl ?_
    refine mj_blk h.1 b_Se_holds_50 rfl trivial ?_
    refine mj_ifnonnull_r h.1 d_Se_holds_54 (tgt := 59) (by decide) ?_
    refine mj_blk h.1 b_Se_holds_59 rfl trivial ?_
    refine mj_callV h zGood (ev_Se_find l D cA _ _ _ _ t0.2.2.2.2.1 _ _ _ ts _ _ _ _ _ _ hz0 ht _ _ _ _ _ _) v_Se_find l_Se_holds_63 d_Se_holds_63 rfl ⟨by decide, by decide⟩ ⟨by decide, by decide⟩ [(0, 0), (1, 1), (2, 2), (3, 3), (4, 4), (5, 5), (6, 6), (7, 20), (8, 8), (9, 9), (10, 10)] rfl rfl rfl rfl rfl rfl (Nat.le_of_ble_eq_true rfl) ?_
    rintro _ _ ⟨rfl, rfl⟩
    refine mj_k rfl rfl ?_
    refine mj_blk h.1 b_Se_holds_66 rfl trivial ?_
    first | refine mj_ifeqB h.1 (tgt := 84) d_Se_holds_71 (by decide) (fun h3 => ?_) (fun h3 => ?_) | refine mj_ifeq h.1 (tgt := 84) d_Se_holds_71 (by decide) (fun h3 => ?_) (fun h3 => ?_)
    · refine mj_blk h.1 b_Se_holds_84 rfl trivial ?_
      refine mj_callV h zGood (ev_Se_moveBases l D cA _ _ _ _ t0.2.2.2.2.1 _ _ ts ht _ _ _ _) v_Se_moveBases l_Se_holds_88 d_Se_holds_88 rfl ⟨by decide, by decide⟩ ⟨by decide, by decide⟩ [(0, 0), (1, 1), (2, 2), (3, 3), (4, 4), (5, 5), (6, 6), (7, 20), (8, 8), (9, 9), (10, 10)] rfl rfl rfl rfl rfl rfl (Nat.le_of_ble_eq_true rfl) ?_
      rintro _ _ ⟨rfl, rfl⟩
      refine mj_k rfl rfl ?_
      refine mj_blk h.1 b_Se_holds_91 rfl trivial ?_
      refine mj_callV h zGood (ev_Mk_settle l D cA _ _ _ ts ht) v_Mk_settle l_Se_holds_96 d_Se_holds_96 rfl ⟨by decide, by decide⟩ ⟨by decide, by decide⟩ [(0, 1), (1, 3), (2, 4)] rfl rfl rfl rfl rfl rfl (Nat.le_of_ble_eq_true rfl) ?_
      rintro _ _ ⟨rfl, rfl⟩
      refine mj_k rfl rfl ?_
      refine mj_blk h.1 b_Se_holds_99 rfl trivial ?_
      refine mj_callV h zGood (ev_Mk_isAnyIn l D cA _ _ ts ht _ _) v_Mk_isAnyIn l_Se_holds_105 d_Se_holds_105 rfl ⟨by decide, by decide⟩ ⟨by decide, by decide⟩ [(0, 1), (1, 3), (2, 4)] rfl rfl rfl rfl rfl rfl (Nat.le_of_ble_eq_true rfl) ?_
      rintro _ _ ⟨rfl, rfl⟩
      refine mj_k rfl rfl ?_
      refine mj_blk h.1 b_Se_holds_108 rfl trivial ?_
      refine mj_lpk [0, 1, 3, 4, 5, 6] rfl ?_
      have k2 := K
      unfold vBm vBl at k2
      rw [if_neg h3, if_neg h3] at k2
      exact k2
    · refine mj_blk h.1 b_Se_holds_74 rfl trivial ?_
      refine mj_callV h zGood (ev_Se_dropBases l D cA _ _ _ _ t0.2.2.2.2.1 _ _ ts ht _ _ _ _) v_Se_dropBases l_Se_holds_78 d_Se_holds_78 rfl ⟨by decide, by decide⟩ ⟨by decide, by decide⟩ [(0, 0), (1, 1), (2, 2), (3, 3), (4, 4), (5, 5), (6, 6), (7, 20), (8, 8), (9, 9), (10, 10)] rfl rfl rfl rfl rfl rfl (Nat.le_of_ble_eq_true rfl) ?_
      rintro _ _ ⟨rfl, rfl⟩
      refine mj_k rfl rfl ?_
      refine mj_blk h.1 b_Se_holds_81 rfl trivial ?_
      refine mj_blk h.1 b_Se_holds_91 rfl trivial ?_
      refine mj_callV h zGood (ev_Mk_settle l D cA _ _ _ ts ht) v_Mk_settle l_Se_holds_96 d_Se_holds_96 rfl ⟨by decide, by decide⟩ ⟨by decide, by decide⟩ [(0, 1), (1, 3), (2, 4)] rfl rfl rfl rfl rfl rfl (Nat.le_of_ble_eq_true rfl) ?_
      rintro _ _ ⟨rfl, rfl⟩
      refine mj_k rfl rfl ?_
      refine mj_blk h.1 b_Se_holds_99 rfl trivial ?_
      refine mj_callV h zGood (ev_Mk_isAnyIn l D cA _ _ ts ht _ _) v_Mk_isAnyIn l_Se_holds_105 d_Se_holds_105 rfl ⟨by decide, by decide⟩ ⟨by decide, by decide⟩ [(0, 1), (1, 3), (2, 4)] rfl rfl rfl rfl rfl rfl (Nat.le_of_ble_eq_true rfl) ?_
      rintro _ _ ⟨rfl, rfl⟩
      refine mj_k rfl rfl ?_
      refine mj_blk h.1 b_Se_holds_108 rfl trivial ?_
      refine mj_lpk [0, 1, 3, 4, 5, 6] rfl ?_
      have k2 := K
      unfold vBm vBl at k2
      rw [if_pos h3, if_pos h3] at k2
      exact k2
set_option maxRecDepth 100000 in
set_option maxHeartbeats 4000000 in
theorem hF_3_0 {X : mj_X} {post : mj_R} (h : mj_E zG X l D cA m_Se_holds 3 120 0 0 (fun _ => True) post) (t0 : oT) (hz0 : t0.2.2.2.2.1 ≤ 6) (t1 : oT) (hz1 : t1.2.2.2.2.1 ≤ 6) (t2 : oT) (hz2 : t2.2.2.2.2.1 ≤ 6) (bm bl fm fl : Nat → Int32) (bt ft : Int32) (hp : post (some (.int 0)) [(0, cSe), (1, cMk 3 4 bt), (3, cBs bm), (4, cIs 81 bl), (2, cMk 5 6 ft), (5, cBs fm), (6, cIs 81 fl), (8, cSm 9 10 ts hs nx rr bg en), (9, cIs 80 tx), (10, cIs 32 hd), (11, cRu 12 wy pt 3), (12, cOs [some 20, some 21, some 22]), (20, cOt t0), (21, cOt t1), (22, cOt t2)]) : mj_W zG X 0 0 30 [(5, .int (nI 0)), (4, .int 0), (3, .int (nI ts)), (0, .ref 0), (1, .ref 11), (2, .ref 8)] [] [(0, cSe), (1, cMk 3 4 bt), (3, cBs bm), (4, cIs 81 bl), (2, cMk 5 6 ft), (5, cBs fm), (6, cIs 81 fl), (8, cSm 9 10 ts hs nx rr bg en), (9, cIs 80 tx), (10, cIs 32 hd), (11, cRu 12 wy pt 3), (12, cOs [some 20, some 21, some 22]), (20, cOt t0), (21, cOt t1), (22, cOt t2)] := by
  refine mj_blk h.1 b_Se_holds_30 rfl trivial ?_
  refine mj_callV h zGood (ev_Ru_size l D cA _ _ 3) v_Ru_size l_Se_holds_33 d_Se_holds_33 rfl ⟨by decide, by decide⟩ ⟨by decide, by decide⟩ [(0, 11), (1, 12), (20, 20), (21, 21), (22, 22)] rfl rfl rfl rfl rfl rfl (Nat.le_of_ble_eq_true rfl) ?_
  rintro _ _ ⟨rfl, rfl⟩
  refine mj_k rfl rfl ?_
  refine mj_icge h.1 (tgt := 116) d_Se_holds_36 (by decide) (fun h1 => ?_) (fun h1 => ?_)
  · refine mj_blk h.1 b_Se_holds_116 rfl trivial ?_
    exact mj_zret h rfl (Or.inl rfl) d_Se_holds_118 (by decide) (by decide) hp
  · refine mj_blk h.1 b_Se_holds_39 rfl trivial ?_
    refine mj_ifeq0 h.1 (tgt := 116) d_Se_holds_41 (by decide) ?_
    refine mj_blk h.1 b_Se_holds_116 rfl trivial ?_
    exact mj_zret h rfl (Or.inl rfl) d_Se_holds_118 (by decide) (by decide) hp
set_option maxRecDepth 100000 in
set_option maxHeartbeats 4000000 in
theorem hH_3_0 {X : mj_X} {post : mj_R} (ht : ts ≤ 80) (h : mj_E zG X l D cA m_Se_holds 3 120 0 0 (fun _ => True) post) (t0 : oT) (hz0 : t0.2.2.2.2.1 ≤ 6) (t1 : oT) (hz1 : t1.2.2.2.2.1 ≤ 6) (t2 : oT) (hz2 : t2.2.2.2.2.1 ≤ 6) (b : Bool) (bm bl fm fl : Nat → Int32) (ft : Int32) (hp : ∀ bm1 bl1 bt fm1 fl1 ft, post (some (.int (if vRun tx ts [t0, t1, t2] bm bl fm fl b then 1 else 0))) [(0, cSe), (1, cMk 3 4 bt), (3, cBs bm1), (4, cIs 81 bl1), (2, cMk 5 6 ft), (5, cBs fm1), (6, cIs 81 fl1), (8, cSm 9 10 ts hs nx rr bg en), (9, cIs 80 tx), (10, cIs 32 hd), (11, cRu 12 wy pt 3), (12, cOs [some 20, some 21, some 22]), (20, cOt t0), (21, cOt t1), (22, cOt t2)]) : mj_W zG X 0 0 30 [(5, .int (nI 0)), (4, .int (if b then 1 else 0)), (3, .int (nI ts)), (0, .ref 0), (1, .ref 11), (2, .ref 8)] [] [(0, cSe), (1, cMk 3 4 (nI ts)), (3, cBs bm), (4, cIs 81 bl), (2, cMk 5 6 ft), (5, cBs fm), (6, cIs 81 fl), (8, cSm 9 10 ts hs nx rr bg en), (9, cIs 80 tx), (10, cIs 32 hd), (11, cRu 12 wy pt 3), (12, cOs [some 20, some 21, some 22]), (20, cOt t0), (21, cOt t1), (22, cOt t2)] := by
  cases b with
  | false =>
    exact hF_3_0 l D cA wy pt tx ts hd hs nx rr bg en h t0 hz0 t1 hz1 t2 hz2 bm bl fm fl (nI ts) ft (hp _ _ _ _ _ _)
  | true =>
    refine hI_3_0 l D cA wy pt tx ts hd hs nx rr bg en ht h t0 hz0 t1 hz1 t2 hz2 bm bl fm fl ft ?_
    rw [← if_dec]
    exact hH_3_1 l D cA wy pt tx ts hd hs nx rr bg en ht h t0 hz0 t1 hz1 t2 hz2 _ _ _ _ _ _ hp
set_option maxRecDepth 100000 in
set_option maxHeartbeats 4000000 in
theorem ev_Se_holds_3 (ht : ts ≤ 80) (t0 : oT) (hz0 : t0.2.2.2.2.1 ≤ 6) (t1 : oT) (hz1 : t1.2.2.2.2.1 ≤ 6) (t2 : oT) (hz2 : t2.2.2.2.2.1 ≤ 6) (bm bl : Nat → Int32) (bt : Int32) (fm fl : Nat → Int32) (ft : Int32) : E_Se_holds l D cA 0 0 [.ref 0, .ref 11, .ref 8] [(0, cSe), (1, cMk 3 4 bt), (3, cBs bm), (4, cIs 81 bl), (2, cMk 5 6 ft), (5, cBs fm), (6, cIs 81 fl), (8, cSm 9 10 ts hs nx rr bg en), (9, cIs 80 tx), (10, cIs 32 hd), (11, cRu 12 wy pt 3), (12, cOs [some 20, some 21, some 22]), (20, cOt t0), (21, cOt t1), (22, cOt t2)] (fun _ => True) (fun r1 w1 => r1 = some (.int (if vRun tx ts [t0, t1, t2] (kStart (ts + 1) 0 bm) (kSet (ts + 1) 0 (-1) (kStart (ts + 1) 0 bm) bl) fm fl true then 1 else 0)) ∧ ∃ bm1 bl1 bt1 fm1 fl1 ft1, w1 = [(0, cSe), (1, cMk 3 4 bt1), (3, cBs bm1), (4, cIs 81 bl1), (2, cMk 5 6 ft1), (5, cBs fm1), (6, cIs 81 fl1), (8, cSm 9 10 ts hs nx rr bg en), (9, cIs 80 tx), (10, cIs 32 hd), (11, cRu 12 wy pt 3), (12, cOs [some 20, some 21, some 22]), (20, cOt t0), (21, cOt t1), (22, cOt t2)]) := by
  refine mj_ev (lv := [(0, .ref 0), (1, .ref 11), (2, .ref 8)]) (by decide +kernel) (Nat.le_of_ble_eq_true rfl) rfl (fun X h => ?_)
  refine mj_blk h.1 b_Se_holds_0 rfl trivial ?_
  refine mj_callV h zGood (ev_Sm_size l D cA _ _ _ _ _ _ _ _) v_Sm_size l_Se_holds_1 d_Se_holds_1 rfl ⟨by decide, by decide⟩ ⟨by decide, by decide⟩ [(0, 8), (1, 9), (2, 10)] rfl rfl rfl rfl rfl rfl (Nat.le_of_ble_eq_true rfl) ?_
  rintro _ _ ⟨rfl, rfl⟩
  refine mj_k rfl rfl ?_
  refine mj_blk h.1 b_Se_holds_4 rfl trivial ?_
  refine mj_callV h zGood (ev_Mk_markStartOnly l D cA _ _ _ ts ht) v_Mk_markStartOnly l_Se_holds_10 d_Se_holds_10 rfl ⟨by decide, by decide⟩ ⟨by decide, by decide⟩ [(0, 1), (1, 3), (2, 4)] rfl rfl rfl rfl rfl rfl (Nat.le_of_ble_eq_true rfl) ?_
  rintro _ _ ⟨rfl, rfl⟩
  refine mj_k rfl rfl ?_
  refine mj_blk h.1 b_Se_holds_13 rfl trivial ?_
  refine mj_callV h zGood (ev_Ru_size l D cA _ _ 3) v_Ru_size l_Se_holds_14 d_Se_holds_14 rfl ⟨by decide, by decide⟩ ⟨by decide, by decide⟩ [(0, 11), (1, 12), (20, 20), (21, 21), (22, 22)] rfl rfl rfl rfl rfl rfl (Nat.le_of_ble_eq_true rfl) ?_
  rintro _ _ ⟨rfl, rfl⟩
  refine mj_k rfl rfl ?_
  refine mj_ifle h.1 (tgt := 24) d_Se_holds_17 (by decide) (fun h1 => ?_) (fun h1 => ?_)
  · exact absurd h1 (by decide)
  · refine mj_blk h.1 b_Se_holds_20 rfl trivial ?_
    refine mj_blk h.1 b_Se_holds_25 rfl trivial ?_
    exact hH_3_0 l D cA wy pt tx ts hd hs nx rr bg en ht h t0 hz0 t1 hz1 t2 hz2 true _ _ _ _ _ (fun _ _ _ _ _ _ => ⟨rfl, _, _, _, _, _, _, rfl⟩)
end HOLDS
