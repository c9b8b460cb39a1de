/-! Marks: what is marked (0 or 1 a place), the latest mark at or before each place, the top -/
abbrev wMk1 (mk lt : Nat → Int32) (tp : Int32) : mj_M := [(0, .inr (3, [.ref 1, .ref 2, .int tp])), (1, .inl (1, 81, .inl mk)), (2, .inl (0, 81, .inl lt))]
def kPut (mk : Nat → Int32) (p x : Int32) : Nat → Int32 := if p < 0 then mk else if 80 < p then mk else upd mk p.toNatClampNeg x
def kSet : Nat → Nat → Int32 → (Nat → Int32) → (Nat → Int32) → (Nat → Int32)
  | 0, _, _, _, lt => lt
  | r + 1, p, last, g, lt => kSet r (p + 1) (if g p = 0 then last else nI p) g (upd lt p (if g p = 0 then last else nI p))
def kStart : Nat → Nat → (Nat → Int32) → (Nat → Int32)
  | 0, _, g => g
  | r + 1, p, g => kStart r (p + 1) (upd g p (if p = 0 then 1 else 0))
theorem vp_in_81 {p : Int32} (h1 : ¬ p < 0) (h2 : ¬ 80 < p) : vp_in p 81 := by
  rw [vp_in_iff]
  have a1 := Int32.le_iff_toInt_le.mp (Int32.not_lt.mp h1)
  have a2 := Int32.le_iff_toInt_le.mp (Int32.not_lt.mp h2)
  rw [Int32.toInt_zero] at a1
  have e : (80 : Int32).toInt = 80 := by decide
  rw [e] at a2
  omega
section MARKS
variable (l : Launch) (D : va_G) (cA : Nat → ClassId)

set_option maxRecDepth 100000 in
set_option maxHeartbeats 4000000 in
theorem ev_Mk_set (mk lt : Nat → Int32) (tp : Int32) (p x : Int32) (hx : x = 0 ∨ x = 1) : E0_Mk_set l D cA [.ref 0, .int p, .int x] (wMk1 mk lt tp) none (wMk1 (kPut mk p x) lt tp) := by
  refine mj_ev (lv := [(0, .ref 0), (1, .int p), (2, .int x)]) (by decide +kernel) (Nat.le_of_ble_eq_true rfl) rfl (fun X h => ?_)
  refine mj_blk h.1 b_Mk_set_0 rfl trivial ?_
  refine mj_iflt h.1 (tgt := 17) d_Mk_set_1 (by decide) (fun h1 => ?_) (fun h1 => ?_)
  · exact mj_vret h rfl d_Mk_set_17 (by decide) (by decide) ⟨rfl, by unfold kPut; rw [if_pos h1]⟩
  · refine mj_blk h.1 b_Mk_set_4 rfl trivial ?_
    refine mj_icgt h.1 (tgt := 17) d_Mk_set_7 (by decide) (fun h2 => ?_) (fun h2 => ?_)
    · exact mj_vret h rfl d_Mk_set_17 (by decide) (by decide) ⟨rfl, by unfold kPut; rw [if_neg h1, if_pos h2]⟩
    · refine mj_blk h.1 b_Mk_set_10 rfl ⟨vp_in_81 h1 h2, hx, trivial⟩ ?_
      exact mj_vret h rfl d_Mk_set_17 (by decide) (by decide) ⟨rfl, by unfold kPut; rw [if_neg h1, if_neg h2]⟩
set_option maxRecDepth 100000 in
set_option maxHeartbeats 4000000 in
theorem ev_Mk_has (mk lt : Nat → Int32) (tp : Int32) (p : Int32) : E0_Mk_has l D cA [.ref 0, .int p] (wMk1 mk lt tp) (some (.int (if ¬ p < 0 ∧ ¬ 80 < p ∧ ¬ mk p.toNatClampNeg = 0 then 1 else 0))) (wMk1 mk lt tp) := by
  refine mj_ev (lv := [(0, .ref 0), (1, .int p)]) (by decide +kernel) (Nat.le_of_ble_eq_true rfl) rfl (fun X h => ?_)
  refine mj_blk h.1 b_Mk_has_0 rfl trivial ?_
  refine mj_iflt h.1 (tgt := 23) d_Mk_has_1 (by decide) (fun h1 => ?_) (fun h1 => ?_)
  · refine mj_blk h.1 b_Mk_has_23 rfl trivial ?_
    exact mj_zret h rfl (by first | exact Or.inl rfl | exact Or.inr rfl) d_Mk_has_24 (by decide) (by decide) ⟨by rw [if_neg (fun h9 => h9.1 h1)], rfl⟩
  · refine mj_blk h.1 b_Mk_has_4 rfl trivial ?_
    refine mj_icgt h.1 (tgt := 23) d_Mk_has_7 (by decide) (fun h2 => ?_) (fun h2 => ?_)
    · refine mj_blk h.1 b_Mk_has_23 rfl trivial ?_
      exact mj_zret h rfl (by first | exact Or.inl rfl | exact Or.inr rfl) d_Mk_has_24 (by decide) (by decide) ⟨by rw [if_neg (fun h9 => h9.2.1 h2)], rfl⟩
    · refine mj_blk h.1 b_Mk_has_10 rfl ⟨vp_in_81 h1 h2, trivial⟩ ?_
      first | refine mj_ifeqB h.1 (tgt := 23) d_Mk_has_16 (by decide) (fun h3 => ?_) (fun h3 => ?_) | refine mj_ifeq h.1 (tgt := 23) d_Mk_has_16 (by decide) (fun h3 => ?_) (fun h3 => ?_)
      · refine mj_blk h.1 b_Mk_has_23 rfl trivial ?_
        exact mj_zret h rfl (by first | exact Or.inl rfl | exact Or.inr rfl) d_Mk_has_24 (by decide) (by decide) ⟨by rw [if_neg (fun h9 => h9.2.2 h3)], rfl⟩
      · refine mj_blk h.1 b_Mk_has_19 rfl trivial ?_
        exact mj_zret h rfl (by first | exact Or.inl rfl | exact Or.inr rfl) d_Mk_has_24 (by decide) (by decide) ⟨by rw [if_pos ⟨h1, h2, h3⟩], rfl⟩
set_option maxRecDepth 100000 in
set_option maxHeartbeats 4000000 in
theorem lp_Mk_settle (mk : Nat → Int32) (e : Nat) (he : e ≤ 80) (q : Int32) {X : mj_X} {post : mj_R} (h : mj_E zG X l D cA m_Mk_settle 0 0 0 0 (fun _ => True) post) : ∀ (r p : Nat) (last : Int32) (lt : Nat → Int32), p + r = e + 1 → post none (wMk1 mk (kSet r p last mk lt) (nI e)) → mj_W zG X 0 0 20 [(3, .int (nI p)), (2, .int last), (0, .ref 0), (1, .int q)] [] (wMk1 mk lt (nI e)) := by
  intro r
  induction r with
  | zero =>
    intro p last lt hi hp
    refine mj_blk h.1 b_Mk_settle_20 rfl trivial ?_
    refine mj_icgt h.1 (tgt := 52) d_Mk_settle_25 (by decide) (fun h1 => ?_) (fun h1 => ?_)
    · exact mj_vret h rfl d_Mk_settle_52 (by decide) (by decide) hp
    · exact absurd ((nI_ltI (by omega) (by omega)).mpr (by omega)) h1
  | succ r ih =>
    intro p last lt hi hp
    refine mj_blk h.1 b_Mk_settle_20 rfl trivial ?_
    refine mj_icgt h.1 (tgt := 52) d_Mk_settle_25 (by decide) (fun h1 => ?_) (fun h1 => ?_)
    · exact absurd ((nI_ltI (by omega) (by omega)).mp h1) (by omega)
    · refine mj_blk h.1 b_Mk_settle_28 rfl ⟨vp_in_nI (by omega) (by decide), trivial⟩ ?_
      first | refine mj_ifeqB h.1 (tgt := 39) d_Mk_settle_34 (by decide) (fun h2 => ?_) (fun h2 => ?_) | refine mj_ifeq h.1 (tgt := 39) d_Mk_settle_34 (by decide) (fun h2 => ?_) (fun h2 => ?_)
      · refine mj_blk h.1 b_Mk_settle_39 rfl ⟨vp_in_nI (by omega) (by decide), trivial⟩ ?_
        have e1 : mk p = 0 := by rw [nI_clamp (by omega)] at h2; exact h2
        have hp2 := hp
        unfold kSet at hp2
        rw [if_pos e1] at hp2
        rw [nI_clamp (by omega), show nI p + 1 = nI (p + 1) from (nI_succ p).symm]
        exact ih (p + 1) _ _ (by omega) hp2
      · refine mj_blk h.1 b_Mk_settle_37 rfl trivial ?_
        refine mj_blk h.1 b_Mk_settle_39 rfl ⟨vp_in_nI (by omega) (by decide), trivial⟩ ?_
        have e1 : ¬ mk p = 0 := by rw [nI_clamp (by omega)] at h2; exact h2
        have hp2 := hp
        unfold kSet at hp2
        rw [if_neg e1] at hp2
        rw [nI_clamp (by omega), show nI p + 1 = nI (p + 1) from (nI_succ p).symm]
        exact ih (p + 1) _ _ (by omega) hp2
set_option maxRecDepth 100000 in
set_option maxHeartbeats 4000000 in
theorem ev_Mk_settle (mk lt : Nat → Int32) (tp : Int32) (e : Nat) (he : e ≤ 80) : E0_Mk_settle l D cA [.ref 0, .int (nI e)] (wMk1 mk lt tp) none (wMk1 mk (kSet (e + 1) 0 (-1) mk lt) (nI e)) := by
  refine mj_ev (lv := [(0, .ref 0), (1, .int (nI e))]) (by decide +kernel) (Nat.le_of_ble_eq_true rfl) rfl (fun X h => ?_)
  refine mj_blk h.1 b_Mk_settle_0 rfl trivial ?_
  refine mj_icgt h.1 (tgt := 13) d_Mk_settle_6 (by decide) (fun h1 => ?_) (fun h1 => ?_)
  · exact absurd (show nI e ≤ nI 80 from nI_le he (by decide)) (Int32.not_le.mpr h1)
  · refine mj_blk h.1 b_Mk_settle_9 rfl trivial ?_
    refine mj_blk h.1 b_Mk_settle_15 rfl trivial ?_
    exact lp_Mk_settle l D cA mk e he _ h (e + 1) 0 (-1) lt (by omega) ⟨rfl, rfl⟩
theorem kmin_le {e : Nat} (he : e ≤ 80) {b : Int32} : ¬ 80 < (if nI e < b then nI e else b) := by
  have h1 : ¬ (80 : Int32) < nI e := nI_nlt (a := 80) (b := e) he (by decide)
  by_cases h : nI e < b
  · rw [if_pos h]
    exact h1
  · rw [if_neg h]
    exact fun h9 => h1 (Int32.lt_of_lt_of_le h9 (Int32.not_lt.mp h))
theorem kPut_in {mk : Nat → Int32} {p : Nat} {x : Int32} (h : p ≤ 80) : kPut mk (nI p) x = upd mk p x := by
  unfold kPut
  rw [if_neg (nI_pos (by omega)), if_neg (show ¬ (80 : Int32) < nI p from nI_nlt (a := 80) h (by decide)), nI_clamp (by omega)]
set_option maxRecDepth 100000 in
set_option maxHeartbeats 4000000 in
theorem lp_Mk_start (lt : Nat → Int32) (tp : Int32) (e : Nat) (he : e ≤ 80) {X : mj_X} {post : mj_R} (h : mj_E zG X l D cA m_Mk_markStartOnly 1 40 0 0 (fun _ => True) post) : ∀ (r p : Nat) (mk : Nat → Int32), p + r = e + 1 → post none (wMk1 (kStart r p mk) (kSet (e + 1) 0 (-1) (kStart r p mk) lt) (nI e)) → mj_W zG X 0 0 2 [(2, .int (nI p)), (0, .ref 0), (1, .int (nI e))] [] (wMk1 mk lt tp) := by
  intro r
  induction r with
  | zero =>
    intro p mk hi hp
    refine mj_blk h.1 b_Mk_markStartOnly_2 rfl trivial ?_
    refine mj_icgt h.1 (tgt := 27) d_Mk_markStartOnly_4 (by decide) (fun h1 => ?_) (fun h1 => ?_)
    · refine mj_blk h.1 b_Mk_markStartOnly_27 rfl trivial ?_
      refine mj_callV h zGood (ev_Mk_settle l D cA _ _ _ e he) v_Mk_settle l_Mk_markStartOnly_29 d_Mk_markStartOnly_29 rfl ⟨by decide, by decide⟩ ⟨by decide, by decide⟩ [(0, 0), (1, 1), (2, 2)] rfl rfl rfl rfl rfl rfl (Nat.le_of_ble_eq_true rfl) ?_
      rintro _ _ ⟨rfl, rfl⟩
      refine mj_k rfl rfl ?_
      exact mj_vret h rfl d_Mk_markStartOnly_32 (by decide) (by decide) hp
    · exact absurd ((nI_ltI (by omega) (by omega)).mpr (by omega)) h1
  | succ r ih =>
    intro p mk hi hp
    refine mj_blk h.1 b_Mk_markStartOnly_2 rfl trivial ?_
    refine mj_icgt h.1 (tgt := 27) d_Mk_markStartOnly_4 (by decide) (fun h1 => ?_) (fun h1 => ?_)
    · exact absurd ((nI_ltI (by omega) (by omega)).mp h1) (by omega)
    · refine mj_blk h.1 b_Mk_markStartOnly_7 rfl trivial ?_
      first | refine mj_ifneB h.1 (tgt := 17) d_Mk_markStartOnly_10 (by decide) (fun h2 => ?_) (fun h2 => ?_) | refine mj_ifne h.1 (tgt := 17) d_Mk_markStartOnly_10 (by decide) (fun h2 => ?_) (fun h2 => ?_)
      · refine mj_blk h.1 b_Mk_markStartOnly_17 rfl trivial ?_
        refine mj_callV h zGood (ev_Mk_set l D cA _ _ _ (nI p) _ (Or.inl rfl)) v_Mk_set l_Mk_markStartOnly_18 d_Mk_markStartOnly_18 rfl ⟨by decide, by decide⟩ ⟨by decide, by decide⟩ [(0, 0), (1, 1), (2, 2)] rfl rfl rfl rfl rfl rfl (Nat.le_of_ble_eq_true rfl) ?_
        rintro _ _ ⟨rfl, rfl⟩
        rw [kPut_in (by omega)]
        refine mj_k rfl rfl ?_
        refine mj_blk h.1 b_Mk_markStartOnly_21 rfl trivial ?_
        have e1 : ¬ p = 0 := fun h9 => h2 (by rw [h9]; rfl)
        have hp2 := hp
        unfold kStart at hp2
        rw [if_neg e1] at hp2
        rw [show nI p + 1 = nI (p + 1) from (nI_succ p).symm]
        exact ih (p + 1) _ (by omega) hp2
      · refine mj_blk h.1 b_Mk_markStartOnly_13 rfl trivial ?_
        refine mj_callV h zGood (ev_Mk_set l D cA _ _ _ (nI p) _ (Or.inr rfl)) v_Mk_set l_Mk_markStartOnly_18 d_Mk_markStartOnly_18 rfl ⟨by decide, by decide⟩ ⟨by decide, by decide⟩ [(0, 0), (1, 1), (2, 2)] rfl rfl rfl rfl rfl rfl (Nat.le_of_ble_eq_true rfl) ?_
        rintro _ _ ⟨rfl, rfl⟩
        rw [kPut_in (by omega)]
        refine mj_k rfl rfl ?_
        refine mj_blk h.1 b_Mk_markStartOnly_21 rfl trivial ?_
        have e1 : p = 0 := by
          have h3 := (nI_eq (b := 0) (by omega) (by decide)).mp h2
          exact h3
        have hp2 := hp
        unfold kStart at hp2
        rw [if_pos e1] at hp2
        rw [show nI p + 1 = nI (p + 1) from (nI_succ p).symm]
        exact ih (p + 1) _ (by omega) hp2
set_option maxRecDepth 100000 in
set_option maxHeartbeats 4000000 in
theorem ev_Mk_markStartOnly (mk lt : Nat → Int32) (tp : Int32) (e : Nat) (he : e ≤ 80) : E0_Mk_markStartOnly l D cA [.ref 0, .int (nI e)] (wMk1 mk lt tp) none (wMk1 (kStart (e + 1) 0 mk) (kSet (e + 1) 0 (-1) (kStart (e + 1) 0 mk) lt) (nI e)) := by
  refine mj_ev (lv := [(0, .ref 0), (1, .int (nI e))]) (by decide +kernel) (Nat.le_of_ble_eq_true rfl) rfl (fun X h => ?_)
  refine mj_blk h.1 b_Mk_markStartOnly_0 rfl trivial ?_
  exact lp_Mk_start l D cA lt tp e he h (e + 1) 0 mk (by omega) ⟨rfl, rfl⟩
set_option maxRecDepth 100000 in
set_option maxHeartbeats 4000000 in
theorem ev_Mk_isAnyIn (mk lt : Nat → Int32) (e : Nat) (he : e ≤ 80) (a b : Int32) : E0_Mk_isAnyIn l D cA [.ref 0, .int a, .int b] (wMk1 mk lt (nI e)) (some (.int (if ¬ (if nI e < b then nI e else b) < 0 ∧ ¬ lt (if nI e < b then nI e else b).toNatClampNeg < (if a < 0 then 0 else a) then 1 else 0))) (wMk1 mk lt (nI e)) := by
  refine mj_ev (lv := [(0, .ref 0), (1, .int a), (2, .int b)]) (by decide +kernel) (Nat.le_of_ble_eq_true rfl) rfl (fun X h => ?_)
  refine mj_blk h.1 b_Mk_isAnyIn_0 rfl trivial ?_
  refine mj_min h z3_29 z3_30 z1_15 z3_31 (by decide) (Nat.le_of_ble_eq_true rfl) (by decide) (by decide) d_Mk_isAnyIn_5 ?_
  refine mj_blk h.1 b_Mk_isAnyIn_8 rfl trivial ?_
  refine mj_iflt h.1 (tgt := 31) d_Mk_isAnyIn_10 (by decide) (fun h1 => ?_) (fun h1 => ?_)
  · refine mj_blk h.1 b_Mk_isAnyIn_31 rfl trivial ?_
    exact mj_zret h rfl (by first | exact Or.inl rfl | exact Or.inr rfl) d_Mk_isAnyIn_32 (by decide) (by decide) ⟨by rw [if_neg (fun h9 => h9.1 h1)], rfl⟩
  · refine mj_blk h.1 b_Mk_isAnyIn_13 rfl ⟨vp_in_81 h1 (kmin_le he), trivial⟩ ?_
    refine mj_max h z3_32 z3_33 z1_15 z3_34 (by decide) (Nat.le_of_ble_eq_true rfl) (by decide) (by decide) d_Mk_isAnyIn_21 ?_
    refine mj_iclt h.1 (tgt := 31) d_Mk_isAnyIn_24 (by decide) (fun h2 => ?_) (fun h2 => ?_)
    · refine mj_blk h.1 b_Mk_isAnyIn_31 rfl trivial ?_
      exact mj_zret h rfl (by first | exact Or.inl rfl | exact Or.inr rfl) d_Mk_isAnyIn_32 (by decide) (by decide) ⟨by rw [if_neg (fun h9 => h9.2 h2)], rfl⟩
    · refine mj_blk h.1 b_Mk_isAnyIn_27 rfl trivial ?_
      exact mj_zret h rfl (by first | exact Or.inl rfl | exact Or.inr rfl) d_Mk_isAnyIn_32 (by decide) (by decide) ⟨by rw [if_pos ⟨h1, h2⟩], rfl⟩
end MARKS
