/-! Search: bases at 1, found at 2, the option at 7, the stream at 8 -/
abbrev cMk (a b : Nat) (tp : Int32) : mj_C := .inr (3, [.ref a, .ref b, .int tp])
abbrev cBs (g : Nat → Int32) : mj_C := .inl (1, 81, .inl g)
abbrev cSe : mj_C := .inr (7, [.ref 1, .ref 2])
abbrev kAny (lt : Nat → Int32) (e : Nat) (a b : Int32) : Prop := ¬ (if nI e < b then nI e else b) < 0 ∧ ¬ lt (if nI e < b then nI e else b).toNatClampNeg < (if a < 0 then 0 else a)
def vFind (ac : Bool) (s : Nat) (ct : Int64) (tx : Nat → Int32) (ts : Nat) : Nat → Nat → (Nat → Int32) → (Nat → Int32)
  | 0, _, g => g
  | r + 1, p, g => vFind ac s ct tx ts r (p + 1) (upd g p (if oSt ac s ct tx ts (nI p) then 1 else 0))
def vDrop (rl : Bool) (le mo : Int32) (fl : Nat → Int32) (e : Nat) : Nat → Nat → (Nat → Int32) → (Nat → Int32)
  | 0, _, g => g
  | r + 1, p, g => vDrop rl le mo fl e r (p + 1) (if kAny fl e ((if rl then nI p else 0) + le) ((if rl then nI p else 0) + mo) then upd g p 0 else g)
abbrev vHit (le mo sz : Int32) (fm bl : Nat → Int32) (e : Nat) (p : Int32) : Prop := (¬ p - sz < 0 ∧ ¬ 80 < p - sz ∧ ¬ fm (p - sz).toNatClampNeg = 0) ∧ kAny bl e (p - sz - mo) (p - sz - le)
def vMove (le mo sz : Int32) (fm bl : Nat → Int32) (e : Nat) : Nat → Nat → (Nat → Int32) → (Nat → Int32)
  | 0, _, g => g
  | r + 1, p, g => vMove le mo sz fm bl e r (p + 1) (upd g p (if vHit le mo sz fm bl e (nI p) then 1 else 0))
section SEARCH
variable (l : Launch) (D : va_G) (cA : Nat → ClassId) (nt rl : Bool) (le mo : Int32) (s : Nat) (ct : Int64) (ac : Bool) (tx : Nat → Int32) (ts : Nat) (hd : Nat → Int32) (hs nx rr : Int32) (bg en : Bool)

set_option maxRecDepth 100000 in
set_option maxHeartbeats 4000000 in
theorem lp_Se_find {X : mj_X} {post : mj_R} (hs9 : s ≤ 6) (ht : ts ≤ 80) (bm bl : Nat → Int32) (bt : Int32) (fl : Nat → Int32) (ft : Int32) (h : mj_E zG X l D cA m_Se_find 2 80 0 0 (fun _ => True) post) : ∀ (r p : Nat) (fm : Nat → Int32), p + r = ts + 1 → post none [(0, cSe), (1, cMk 3 4 bt), (3, cBs bm), (4, cIs 81 bl), (2, cMk 5 6 (nI ts)), (5, cBs (vFind ac s ct tx ts r p fm)), (6, cIs 81 (kSet (ts + 1) 0 (-1) (vFind ac s ct tx ts r p fm) fl)), (7, cOp nt rl le mo (nI s) ct ac), (8, cSm 9 10 ts hs nx rr bg en), (9, cIs 80 tx), (10, cIs 32 hd)] → mj_W zG X 0 0 8 [(4, .int (nI p)), (3, .int (nI ts)), (0, .ref 0), (1, .ref 7), (2, .ref 8)] [] [(0, cSe), (1, cMk 3 4 bt), (3, cBs bm), (4, cIs 81 bl), (2, cMk 5 6 ft), (5, cBs fm), (6, cIs 81 fl), (7, cOp nt rl le mo (nI s) ct ac), (8, cSm 9 10 ts hs nx rr bg en), (9, cIs 80 tx), (10, cIs 32 hd)] := by
  intro r
  induction r with
  | zero =>
    intro p fm hi hp
    refine mj_blk h.1 b_Se_find_8 rfl trivial ?_
    refine mj_icgt h.1 (tgt := 36) d_Se_find_11 (by decide) (fun h1 => ?_) (fun h1 => ?_)
    · refine mj_blk h.1 b_Se_find_36 rfl trivial ?_
      refine mj_callV h zGood (ev_Mk_settle l D cA _ _ _ ts ht) v_Mk_settle l_Se_find_41 d_Se_find_41 rfl ⟨by decide, by decide⟩ ⟨by decide, by decide⟩ [(0, 2), (1, 5), (2, 6)] rfl rfl rfl rfl rfl rfl (Nat.le_of_ble_eq_true rfl) ?_
      rintro _ _ ⟨rfl, rfl⟩
      refine mj_k rfl rfl ?_
      exact mj_vret h rfl d_Se_find_44 (by decide) (by decide) hp
    · exact absurd ((nI_ltI (by omega) (by omega)).mpr (by omega)) h1
  | succ r ih =>
    intro p fm hi hp
    refine mj_blk h.1 b_Se_find_8 rfl trivial ?_
    refine mj_icgt h.1 (tgt := 36) d_Se_find_11 (by decide) (fun h1 => ?_) (fun h1 => ?_)
    · exact absurd ((nI_ltI (by omega) (by omega)).mp h1) (by omega)
    · refine mj_blk h.1 b_Se_find_14 rfl trivial ?_
      refine mj_callV h zGood (ev_Op_standsAt l D cA _ _ _ _ _ _ s hs9 _ _ ht _ _ _ _ _ _ _) v_Op_standsAt l_Se_find_24 d_Se_find_24 rfl ⟨by decide, by decide⟩ ⟨by decide, by decide⟩ [(0, 7), (1, 8), (2, 9), (3, 10)] rfl rfl rfl rfl rfl rfl (Nat.le_of_ble_eq_true rfl) ?_
      rintro _ _ ⟨rfl, rfl⟩
      refine mj_k rfl rfl ?_
      refine mj_callV h zGood (ev_Mk_set l D cA _ _ _ (nI p) _ mj_z01) v_Mk_set l_Se_find_27 d_Se_find_27 rfl ⟨by decide, by decide⟩ ⟨by decide, by decide⟩ [(0, 2), (1, 5), (2, 6)] rfl rfl rfl rfl rfl rfl (Nat.le_of_ble_eq_true rfl) ?_
      rintro _ _ ⟨rfl, rfl⟩
      rw [kPut_in (by omega)]
      refine mj_k rfl rfl ?_
      refine mj_blk h.1 b_Se_find_30 rfl trivial ?_
      rw [show nI p + 1 = nI (p + 1) from (nI_succ p).symm]
      exact ih (p + 1) _ (by omega) hp
set_option maxRecDepth 100000 in
set_option maxHeartbeats 4000000 in
theorem ev_Se_find (hs9 : s ≤ 6) (ht : ts ≤ 80) (bm bl : Nat → Int32) (bt : Int32) (fm fl : Nat → Int32) (ft : Int32) : E0_Se_find l D cA [.ref 0, .ref 7, .ref 8] [(0, cSe), (1, cMk 3 4 bt), (3, cBs bm), (4, cIs 81 bl), (2, cMk 5 6 ft), (5, cBs fm), (6, cIs 81 fl), (7, cOp nt rl le mo (nI s) ct ac), (8, cSm 9 10 ts hs nx rr bg en), (9, cIs 80 tx), (10, cIs 32 hd)] none [(0, cSe), (1, cMk 3 4 bt), (3, cBs bm), (4, cIs 81 bl), (2, cMk 5 6 (nI ts)), (5, cBs (vFind ac s ct tx ts (ts + 1) 0 fm)), (6, cIs 81 (kSet (ts + 1) 0 (-1) (vFind ac s ct tx ts (ts + 1) 0 fm) fl)), (7, cOp nt rl le mo (nI s) ct ac), (8, cSm 9 10 ts hs nx rr bg en), (9, cIs 80 tx), (10, cIs 32 hd)] := by
  refine mj_ev (lv := [(0, .ref 0), (1, .ref 7), (2, .ref 8)]) (by decide +kernel) (Nat.le_of_ble_eq_true rfl) rfl (fun X h => ?_)
  refine mj_blk h.1 b_Se_find_0 rfl trivial ?_
  refine mj_callV h zGood (ev_Sm_size l D cA _ _ _ _ _ _ _ _) v_Sm_size l_Se_find_1 d_Se_find_1 rfl ⟨by decide, by decide⟩ ⟨by decide, by decide⟩ [(0, 8), (1, 9), (2, 10)] rfl rfl rfl rfl rfl rfl (Nat.le_of_ble_eq_true rfl) ?_
  rintro _ _ ⟨rfl, rfl⟩
  refine mj_k rfl rfl ?_
  refine mj_blk h.1 b_Se_find_4 rfl trivial ?_
  exact lp_Se_find l D cA nt rl le mo s ct ac tx ts hd hs nx rr bg en hs9 ht bm bl bt fl ft h (ts + 1) 0 fm (by omega) ⟨rfl, rfl⟩
set_option maxRecDepth 100000 in
set_option maxHeartbeats 4000000 in
theorem lp_Se_drop {X : mj_X} {post : mj_R} (e : Nat) (he : e ≤ 80) (bl fm fl : Nat → Int32) (h : mj_E zG X l D cA m_Se_dropBases 2 80 0 0 (fun _ => True) post) : ∀ (r p : Nat) (bm : Nat → Int32), p + r = e + 1 → post none [(0, cSe), (1, cMk 3 4 (nI e)), (3, cBs (vDrop rl le mo fl e r p bm)), (4, cIs 81 bl), (2, cMk 5 6 (nI e)), (5, cBs fm), (6, cIs 81 fl), (7, cOp nt rl le mo (nI s) ct ac)] → mj_W zG X 0 0 2 [(3, .int (nI p)), (0, .ref 0), (1, .ref 7), (2, .int (nI e))] [] [(0, cSe), (1, cMk 3 4 (nI e)), (3, cBs bm), (4, cIs 81 bl), (2, cMk 5 6 (nI e)), (5, cBs fm), (6, cIs 81 fl), (7, cOp nt rl le mo (nI s) ct ac)] := by
  intro r
  induction r with
  | zero =>
    intro p bm hi hp
    refine mj_blk h.1 b_Se_dropBases_2 rfl trivial ?_
    refine mj_icgt h.1 (tgt := 60) d_Se_dropBases_4 (by decide) (fun h1 => ?_) (fun h1 => ?_)
    · exact mj_vret h rfl d_Se_dropBases_60 (by decide) (by decide) hp
    · exact absurd ((nI_ltI (by omega) (by omega)).mpr (by omega)) h1
  | succ r ih =>
    intro p bm hi hp
    refine mj_blk h.1 b_Se_dropBases_2 rfl trivial ?_
    refine mj_icgt h.1 (tgt := 60) d_Se_dropBases_4 (by decide) (fun h1 => ?_) (fun h1 => ?_)
    · exact absurd ((nI_ltI (by omega) (by omega)).mp h1) (by omega)
    · refine mj_blk h.1 b_Se_dropBases_7 rfl trivial ?_
      first | refine mj_ifeqB h.1 (tgt := 18) d_Se_dropBases_11 (by decide) (fun h2 => ?_) (fun h2 => ?_) | refine mj_ifeq h.1 (tgt := 18) d_Se_dropBases_11 (by decide) (fun h2 => ?_) (fun h2 => ?_)
      · refine mj_blk h.1 b_Se_dropBases_18 rfl trivial ?_
        refine mj_blk h.1 b_Se_dropBases_19 rfl trivial ?_
        refine mj_callV h zGood (ev_Mk_isAnyIn l D cA _ _ e he _ _) v_Mk_isAnyIn l_Se_dropBases_39 d_Se_dropBases_39 rfl ⟨by decide, by decide⟩ ⟨by decide, by decide⟩ [(0, 2), (1, 5), (2, 6)] rfl rfl rfl rfl rfl rfl (Nat.le_of_ble_eq_true rfl) ?_
        rintro _ _ ⟨rfl, rfl⟩
        refine mj_k rfl rfl ?_
        first | refine mj_ifeqB h.1 (tgt := 54) d_Se_dropBases_42 (by decide) (fun h3 => ?_) (fun h3 => ?_) | refine mj_ifeq h.1 (tgt := 54) d_Se_dropBases_42 (by decide) (fun h3 => ?_) (fun h3 => ?_)
        · refine mj_blk h.1 b_Se_dropBases_54 rfl trivial ?_
          refine mj_lpk [0, 2, 3, 4] rfl ?_
          have hp2 := hp
          unfold vDrop at hp2
          rw [if_neg h2, if_neg h3] at hp2
          rw [show nI p + 1 = nI (p + 1) from (nI_succ p).symm]
          exact ih (p + 1) _ (by omega) hp2
        · refine mj_blk h.1 b_Se_dropBases_45 rfl trivial ?_
          refine mj_callV h zGood (ev_Mk_set l D cA _ _ _ (nI p) _ (Or.inl rfl)) v_Mk_set l_Se_dropBases_51 d_Se_dropBases_51 rfl ⟨by decide, by decide⟩ ⟨by decide, by decide⟩ [(0, 1), (1, 3), (2, 4)] rfl rfl rfl rfl rfl rfl (Nat.le_of_ble_eq_true rfl) ?_
          rintro _ _ ⟨rfl, rfl⟩
          rw [kPut_in (by omega)]
          refine mj_k rfl rfl ?_
          refine mj_blk h.1 b_Se_dropBases_54 rfl trivial ?_
          refine mj_lpk [0, 2, 3, 4] rfl ?_
          have hp2 := hp
          unfold vDrop at hp2
          rw [if_neg h2, if_pos h3] at hp2
          rw [show nI p + 1 = nI (p + 1) from (nI_succ p).symm]
          exact ih (p + 1) _ (by omega) hp2
      · refine mj_blk h.1 b_Se_dropBases_14 rfl trivial ?_
        refine mj_blk h.1 b_Se_dropBases_19 rfl trivial ?_
        refine mj_callV h zGood (ev_Mk_isAnyIn l D cA _ _ e he _ _) v_Mk_isAnyIn l_Se_dropBases_39 d_Se_dropBases_39 rfl ⟨by decide, by decide⟩ ⟨by decide, by decide⟩ [(0, 2), (1, 5), (2, 6)] rfl rfl rfl rfl rfl rfl (Nat.le_of_ble_eq_true rfl) ?_
        rintro _ _ ⟨rfl, rfl⟩
        refine mj_k rfl rfl ?_
        first | refine mj_ifeqB h.1 (tgt := 54) d_Se_dropBases_42 (by decide) (fun h4 => ?_) (fun h4 => ?_) | refine mj_ifeq h.1 (tgt := 54) d_Se_dropBases_42 (by decide) (fun h4 => ?_) (fun h4 => ?_)
        · refine mj_blk h.1 b_Se_dropBases_54 rfl trivial ?_
          refine mj_lpk [0, 2, 3, 4] rfl ?_
          have hp2 := hp
          unfold vDrop at hp2
          rw [if_pos h2, if_neg h4] at hp2
          rw [show nI p + 1 = nI (p + 1) from (nI_succ p).symm]
          exact ih (p + 1) _ (by omega) hp2
        · refine mj_blk h.1 b_Se_dropBases_45 rfl trivial ?_
          refine mj_callV h zGood (ev_Mk_set l D cA _ _ _ (nI p) _ (Or.inl rfl)) v_Mk_set l_Se_dropBases_51 d_Se_dropBases_51 rfl ⟨by decide, by decide⟩ ⟨by decide, by decide⟩ [(0, 1), (1, 3), (2, 4)] rfl rfl rfl rfl rfl rfl (Nat.le_of_ble_eq_true rfl) ?_
          rintro _ _ ⟨rfl, rfl⟩
          rw [kPut_in (by omega)]
          refine mj_k rfl rfl ?_
          refine mj_blk h.1 b_Se_dropBases_54 rfl trivial ?_
          refine mj_lpk [0, 2, 3, 4] rfl ?_
          have hp2 := hp
          unfold vDrop at hp2
          rw [if_pos h2, if_pos h4] at hp2
          rw [show nI p + 1 = nI (p + 1) from (nI_succ p).symm]
          exact ih (p + 1) _ (by omega) hp2
set_option maxRecDepth 100000 in
set_option maxHeartbeats 4000000 in
theorem ev_Se_dropBases (e : Nat) (he : e ≤ 80) (bm bl fm fl : Nat → Int32) : E0_Se_dropBases l D cA [.ref 0, .ref 7, .int (nI e)] [(0, cSe), (1, cMk 3 4 (nI e)), (3, cBs bm), (4, cIs 81 bl), (2, cMk 5 6 (nI e)), (5, cBs fm), (6, cIs 81 fl), (7, cOp nt rl le mo (nI s) ct ac)] none [(0, cSe), (1, cMk 3 4 (nI e)), (3, cBs (vDrop rl le mo fl e (e + 1) 0 bm)), (4, cIs 81 bl), (2, cMk 5 6 (nI e)), (5, cBs fm), (6, cIs 81 fl), (7, cOp nt rl le mo (nI s) ct ac)] := by
  refine mj_ev (lv := [(0, .ref 0), (1, .ref 7), (2, .int (nI e))]) (by decide +kernel) (Nat.le_of_ble_eq_true rfl) rfl (fun X h => ?_)
  refine mj_blk h.1 b_Se_dropBases_0 rfl trivial ?_
  exact lp_Se_drop l D cA nt rl le mo s ct ac e he bl fm fl h (e + 1) 0 bm (by omega) ⟨rfl, rfl⟩
set_option maxRecDepth 100000 in
set_option maxHeartbeats 4000000 in
theorem lp_Se_move {X : mj_X} {post : mj_R} (e : Nat) (he : e ≤ 80) (bl fm fl : Nat → Int32) (h : mj_E zG X l D cA m_Se_moveBases 2 80 0 0 (fun _ => True) post) : ∀ (r p : Nat) (bm : Nat → Int32), p + r = e + 1 → post none [(0, cSe), (1, cMk 3 4 (nI e)), (3, cBs (vMove le mo (nI s) fm bl e r p bm)), (4, cIs 81 bl), (2, cMk 5 6 (nI e)), (5, cBs fm), (6, cIs 81 fl), (7, cOp nt rl le mo (nI s) ct ac)] → mj_W zG X 0 0 17 [(3, .int (nI p)), (0, .ref 0), (1, .ref 7), (2, .int (nI e))] [] [(0, cSe), (1, cMk 3 4 (nI e)), (3, cBs bm), (4, cIs 81 bl), (2, cMk 5 6 (nI e)), (5, cBs fm), (6, cIs 81 fl), (7, cOp nt rl le mo (nI s) ct ac)] := by
  intro r
  induction r with
  | zero =>
    intro p bm hi hp
    refine mj_blk h.1 b_Se_moveBases_17 rfl trivial ?_
    refine mj_icgt h.1 (tgt := 89) d_Se_moveBases_19 (by decide) (fun h1 => ?_) (fun h1 => ?_)
    · exact mj_vret h rfl d_Se_moveBases_89 (by decide) (by decide) hp
    · exact absurd ((nI_ltI (by omega) (by omega)).mpr (by omega)) h1
  | succ r ih =>
    intro p bm hi hp
    refine mj_blk h.1 b_Se_moveBases_17 rfl trivial ?_
    refine mj_icgt h.1 (tgt := 89) d_Se_moveBases_19 (by decide) (fun h1 => ?_) (fun h1 => ?_)
    · exact absurd ((nI_ltI (by omega) (by omega)).mp h1) (by omega)
    · refine mj_blk h.1 b_Se_moveBases_22 rfl trivial ?_
      refine mj_callV h zGood (ev_Mk_has l D cA _ _ _ _) v_Mk_has l_Se_moveBases_36 d_Se_moveBases_36 rfl ⟨by decide, by decide⟩ ⟨by decide, by decide⟩ [(0, 2), (1, 5), (2, 6)] rfl rfl rfl rfl rfl rfl (Nat.le_of_ble_eq_true rfl) ?_
      rintro _ _ ⟨rfl, rfl⟩
      refine mj_k rfl rfl ?_
      first | refine mj_ifeqB h.1 (tgt := 70) d_Se_moveBases_39 (by decide) (fun h2 => ?_) (fun h2 => ?_) | refine mj_ifeq h.1 (tgt := 70) d_Se_moveBases_39 (by decide) (fun h2 => ?_) (fun h2 => ?_)
      · refine mj_blk h.1 b_Se_moveBases_70 rfl trivial ?_
        refine mj_blk h.1 b_Se_moveBases_71 rfl trivial ?_
        refine mj_callV h zGood (ev_Mk_set l D cA _ _ _ (nI p) _ (Or.inl rfl)) v_Mk_set l_Se_moveBases_80 d_Se_moveBases_80 rfl ⟨by decide, by decide⟩ ⟨by decide, by decide⟩ [(0, 1), (1, 3), (2, 4)] rfl rfl rfl rfl rfl rfl (Nat.le_of_ble_eq_true rfl) ?_
        rintro _ _ ⟨rfl, rfl⟩
        rw [kPut_in (by omega)]
        refine mj_k rfl rfl ?_
        refine mj_blk h.1 b_Se_moveBases_83 rfl trivial ?_
        refine mj_lpk [0, 3, 4, 5] rfl ?_
        have hp2 := hp
        unfold vMove at hp2
        rw [if_neg (show ¬ vHit le mo (nI s) fm bl e (nI p) from fun z => h2 z.1)] at hp2
        rw [show nI p + 1 = nI (p + 1) from (nI_succ p).symm]
        exact ih (p + 1) _ (by omega) hp2
      · refine mj_blk h.1 b_Se_moveBases_42 rfl trivial ?_
        refine mj_callV h zGood (ev_Mk_isAnyIn l D cA _ _ e he _ _) v_Mk_isAnyIn l_Se_moveBases_60 d_Se_moveBases_60 rfl ⟨by decide, by decide⟩ ⟨by decide, by decide⟩ [(0, 1), (1, 3), (2, 4)] rfl rfl rfl rfl rfl rfl (Nat.le_of_ble_eq_true rfl) ?_
        rintro _ _ ⟨rfl, rfl⟩
        refine mj_k rfl rfl ?_
        first | refine mj_ifeqB h.1 (tgt := 70) d_Se_moveBases_63 (by decide) (fun h3 => ?_) (fun h3 => ?_) | refine mj_ifeq h.1 (tgt := 70) d_Se_moveBases_63 (by decide) (fun h3 => ?_) (fun h3 => ?_)
        · refine mj_blk h.1 b_Se_moveBases_70 rfl trivial ?_
          refine mj_blk h.1 b_Se_moveBases_71 rfl trivial ?_
          refine mj_callV h zGood (ev_Mk_set l D cA _ _ _ (nI p) _ (Or.inl rfl)) v_Mk_set l_Se_moveBases_80 d_Se_moveBases_80 rfl ⟨by decide, by decide⟩ ⟨by decide, by decide⟩ [(0, 1), (1, 3), (2, 4)] rfl rfl rfl rfl rfl rfl (Nat.le_of_ble_eq_true rfl) ?_
          rintro _ _ ⟨rfl, rfl⟩
          rw [kPut_in (by omega)]
          refine mj_k rfl rfl ?_
          refine mj_blk h.1 b_Se_moveBases_83 rfl trivial ?_
          refine mj_lpk [0, 3, 4, 5] rfl ?_
          have hp2 := hp
          unfold vMove at hp2
          rw [if_neg (show ¬ vHit le mo (nI s) fm bl e (nI p) from fun z => h3 z.2)] at hp2
          rw [show nI p + 1 = nI (p + 1) from (nI_succ p).symm]
          exact ih (p + 1) _ (by omega) hp2
        · refine mj_blk h.1 b_Se_moveBases_66 rfl trivial ?_
          refine mj_blk h.1 b_Se_moveBases_71 rfl trivial ?_
          refine mj_callV h zGood (ev_Mk_set l D cA _ _ _ (nI p) _ (Or.inr rfl)) v_Mk_set l_Se_moveBases_80 d_Se_moveBases_80 rfl ⟨by decide, by decide⟩ ⟨by decide, by decide⟩ [(0, 1), (1, 3), (2, 4)] rfl rfl rfl rfl rfl rfl (Nat.le_of_ble_eq_true rfl) ?_
          rintro _ _ ⟨rfl, rfl⟩
          rw [kPut_in (by omega)]
          refine mj_k rfl rfl ?_
          refine mj_blk h.1 b_Se_moveBases_83 rfl trivial ?_
          refine mj_lpk [0, 3, 4, 5] rfl ?_
          have hp2 := hp
          unfold vMove at hp2
          rw [if_pos (show vHit le mo (nI s) fm bl e (nI p) from ⟨h2, h3⟩)] at hp2
          rw [show nI p + 1 = nI (p + 1) from (nI_succ p).symm]
          exact ih (p + 1) _ (by omega) hp2
def vB0 (rl : Bool) (e : Nat) (bm : Nat → Int32) : Nat → Int32 := if rl then bm else kStart (e + 1) 0 bm
def vL0 (rl : Bool) (e : Nat) (bm bl : Nat → Int32) : Nat → Int32 := if rl then bl else kSet (e + 1) 0 (-1) (kStart (e + 1) 0 bm) bl
set_option maxRecDepth 100000 in
set_option maxHeartbeats 4000000 in
theorem ev_Se_moveBases (e : Nat) (he : e ≤ 80) (bm bl fm fl : Nat → Int32) : E0_Se_moveBases l D cA [.ref 0, .ref 7, .int (nI e)] [(0, cSe), (1, cMk 3 4 (nI e)), (3, cBs bm), (4, cIs 81 bl), (2, cMk 5 6 (nI e)), (5, cBs fm), (6, cIs 81 fl), (7, cOp nt rl le mo (nI s) ct ac)] none [(0, cSe), (1, cMk 3 4 (nI e)), (3, cBs (vMove le mo (nI s) fm (vL0 rl e bm bl) e (e + 1) 0 (vB0 rl e bm))), (4, cIs 81 (vL0 rl e bm bl)), (2, cMk 5 6 (nI e)), (5, cBs fm), (6, cIs 81 fl), (7, cOp nt rl le mo (nI s) ct ac)] := by
  refine mj_ev (lv := [(0, .ref 0), (1, .ref 7), (2, .int (nI e))]) (by decide +kernel) (Nat.le_of_ble_eq_true rfl) rfl (fun X h => ?_)
  refine mj_blk h.1 b_Se_moveBases_0 rfl trivial ?_
  first | refine mj_ifneB h.1 (tgt := 15) d_Se_moveBases_4 (by decide) (fun h1 => ?_) (fun h1 => ?_) | refine mj_ifne h.1 (tgt := 15) d_Se_moveBases_4 (by decide) (fun h1 => ?_) (fun h1 => ?_)
  · refine mj_blk h.1 b_Se_moveBases_15 rfl trivial ?_
    exact lp_Se_move l D cA nt rl le mo s ct ac e he _ fm fl h (e + 1) 0 _ (by omega) ⟨rfl, by unfold vL0 vB0; rw [if_pos h1, if_pos h1]⟩
  · refine mj_blk h.1 b_Se_moveBases_7 rfl trivial ?_
    refine mj_callV h zGood (ev_Mk_markStartOnly l D cA _ _ _ e he) v_Mk_markStartOnly l_Se_moveBases_12 d_Se_moveBases_12 rfl ⟨by decide, by decide⟩ ⟨by decide, by decide⟩ [(0, 1), (1, 3), (2, 4)] rfl rfl rfl rfl rfl rfl (Nat.le_of_ble_eq_true rfl) ?_
    rintro _ _ ⟨rfl, rfl⟩
    refine mj_k rfl rfl ?_
    refine mj_blk h.1 b_Se_moveBases_15 rfl trivial ?_
    exact lp_Se_move l D cA nt rl le mo s ct ac e he _ fm fl h (e + 1) 0 _ (by omega) ⟨rfl, by unfold vL0 vB0; rw [if_neg h1, if_neg h1]⟩
end SEARCH
