/-! switches -/
theorem mj_tswIn {G : mj_G} {X : mj_X} {M : mj_Y} {cells slots pc : Nat} {lv : mj_L} {r : List Value} {w : mj_M} (hB : mj_B G X M) {dflt lo hi : Int} {offs : Array Int} {len : Nat} {x : Int32} {off : Int} {tgt : Nat} (hd : decode M.2.2.1 pc = .ok (.tableswitch dflt lo hi offs, len)) (h1 : ¬ x.toInt < lo) (h2 : ¬ hi < x.toInt) (ho : offs[(x.toInt - lo).toNat]? = some off) (ht : (pc : Int) + off = (tgt : Int)) (kk : mj_W G X cells slots tgt lv r w) : mj_W G X cells slots pc lv (.int x :: r) w := by
  obtain ⟨p, l, e, R, s, m, args, below, meth, c, Q, D, cA, A, ad0, kp, nL⟩ := X
  exact fun ad H locs ls h0 hP hD hS hl => lv_tableIn hB.1 hB.2.1 hd h1 h2 ho ht (kk ad H locs ls h0 hP hD hS hl)
theorem mj_tswOut {G : mj_G} {X : mj_X} {M : mj_Y} {cells slots pc : Nat} {lv : mj_L} {r : List Value} {w : mj_M} (hB : mj_B G X M) {dflt lo hi : Int} {offs : Array Int} {len : Nat} {x : Int32} {tgt : Nat} (hd : decode M.2.2.1 pc = .ok (.tableswitch dflt lo hi offs, len)) (h1 : x.toInt < lo ∨ hi < x.toInt) (ht : (pc : Int) + dflt = (tgt : Int)) (kk : mj_W G X cells slots tgt lv r w) : mj_W G X cells slots pc lv (.int x :: r) w := by
  obtain ⟨p, l, e, R, s, m, args, below, meth, c, Q, D, cA, A, ad0, kp, nL⟩ := X
  exact fun ad H locs ls h0 hP hD hS hl => lv_tableOut hB.1 hB.2.1 hd h1 ht (kk ad H locs ls h0 hP hD hS hl)
theorem mj_sw4 (x : Int32) : x = 0 ∨ x = 1 ∨ x = 2 ∨ x = 3 ∨ x = 4 ∨ (x.toInt < 0 ∨ 4 < x.toInt) := by
  rcases pk_ix x (n := 5) (by decide) with h | h | ⟨j, hj, rfl⟩
  · have := Int32.lt_iff_toInt_lt.mp h
    rw [Int32.toInt_zero] at this
    exact Or.inr (Or.inr (Or.inr (Or.inr (Or.inr (Or.inl this)))))
  · have := Int32.le_iff_toInt_le.mp h
    rw [nI_toInt (by decide)] at this
    exact Or.inr (Or.inr (Or.inr (Or.inr (Or.inr (Or.inr (by omega))))))
  · rcases (show j = 0 ∨ j = 1 ∨ j = 2 ∨ j = 3 ∨ j = 4 by omega) with rfl | rfl | rfl | rfl | rfl
    · exact Or.inl rfl
    · exact Or.inr (Or.inl rfl)
    · exact Or.inr (Or.inr (Or.inl rfl))
    · exact Or.inr (Or.inr (Or.inr (Or.inl rfl)))
    · exact Or.inr (Or.inr (Or.inr (Or.inr (Or.inl rfl))))
theorem mj_sw3 (x : Int32) : x = 0 ∨ x = 1 ∨ x = 2 ∨ x = 3 ∨ (x.toInt < 0 ∨ 3 < x.toInt) := by
  rcases pk_ix x (n := 4) (by decide) with h | h | ⟨j, hj, rfl⟩
  · have := Int32.lt_iff_toInt_lt.mp h
    rw [Int32.toInt_zero] at this
    exact Or.inr (Or.inr (Or.inr (Or.inr (Or.inl this))))
  · have := Int32.le_iff_toInt_le.mp h
    rw [nI_toInt (by decide)] at this
    exact Or.inr (Or.inr (Or.inr (Or.inr (Or.inr (by omega)))))
  · rcases (show j = 0 ∨ j = 1 ∨ j = 2 ∨ j = 3 by omega) with rfl | rfl | rfl | rfl
    · exact Or.inl rfl
    · exact Or.inr (Or.inl rfl)
    · exact Or.inr (Or.inr (Or.inl rfl))
    · exact Or.inr (Or.inr (Or.inr (Or.inl rfl)))
theorem mj_out {x : Int32} {n : Nat} (hn : n < 2 ^ 30) (k : Nat) (hk : k ≤ n) (h : x.toInt < 0 ∨ (n : Int) < x.toInt) : ¬ x = nI k := by
  rintro rfl
  rw [nI_toInt (by omega)] at h
  omega
theorem mj_out4 {x : Int32} (h : x.toInt < 0 ∨ 4 < x.toInt) (k : Nat) (hk : k ≤ 4) : ¬ x = nI k := by
  rintro rfl
  rw [nI_toInt (by omega)] at h
  omega
theorem mj_out3 {x : Int32} (h : x.toInt < 0 ∨ 3 < x.toInt) (k : Nat) (hk : k ≤ 3) : ¬ x = nI k := by
  rintro rfl
  rw [nI_toInt (by omega)] at h
  omega

/-! StreamWatch: the object at 50, the wire at 51, 52, the packet at 40, the table at 0 .., the rules' array at 53, the search at 60 .., the log at 70 (by program: wip/whole/src_sw1.py) -/
abbrev cSw (st : Bool) (rc : Nat) : mj_C := .inr (10, [.int (if st then 1 else 0), .ref 51, .ref 40, .ref 0, .ref 53, .ref 60, .ref 70, .int (nI rc)])
section SWA
variable (l : Launch) (D : va_G) (cA : Nat → ClassId) (st : Bool) (rc : Nat)

set_option maxRecDepth 100000 in
set_option maxHeartbeats 4000000 in
theorem ev_Sw_alter (n : Nat) (hn : n ≤ 100) (f : Nat → Int32) (k b : Int32) : E0_Sw_alter l D cA [.ref 50, .int k, .int b] [(50, cSw st rc), (51, cWi 52 n), (52, cIs 100 f)] (some (.int (if 0 ≤ k ∧ k < nI n then 1 else 0))) [(50, cSw st rc), (51, cWi 52 n), (52, cIs 100 (if 0 ≤ k ∧ k < nI n then upd f k.toNatClampNeg (f k.toNatClampNeg ^^^ (b &&& 255)) else f))] := by
  refine mj_ev (lv := [(0, .ref 50), (1, .int k), (2, .int b)]) (by decide +kernel) (Nat.le_of_ble_eq_true rfl) rfl (fun X h => ?_)
  refine mj_blk h.1 b_Sw_alter_0 rfl trivial ?_
  refine mj_callV h zGood (ev_Wi_flip l D cA _ hn _ _ _) v_Wi_flip l_Sw_alter_6 d_Sw_alter_6 rfl ⟨by decide, by decide⟩ ⟨by decide, by decide⟩ [(0, 51), (1, 52)] rfl rfl rfl rfl rfl rfl (Nat.le_of_ble_eq_true rfl) ?_
  rintro _ _ ⟨rfl, rfl⟩
  refine mj_k rfl rfl ?_
  exact mj_zret h rfl (mj_z01) d_Sw_alter_9 (by decide) (by decide) ⟨rfl, rfl⟩
set_option maxRecDepth 100000 in
set_option maxHeartbeats 4000000 in
theorem ev_Sw_wipe (n : Nat) (hn : n ≤ 100) (f : Nat → Int32) : E0_Sw_wipe l D cA [.ref 50] [(50, cSw st rc), (51, cWi 52 n), (52, cIs 100 f)] none [(50, cSw st rc), (51, cWi 52 0), (52, cIs 100 f)] := by
  refine mj_ev (lv := [(0, .ref 50)]) (by decide +kernel) (Nat.le_of_ble_eq_true rfl) rfl (fun X h => ?_)
  refine mj_blk h.1 b_Sw_wipe_0 rfl trivial ?_
  refine mj_callV h zGood (ev_Wi_clear l D cA _ _) v_Wi_clear l_Sw_wipe_4 d_Sw_wipe_4 rfl ⟨by decide, by decide⟩ ⟨by decide, by decide⟩ [(0, 51), (1, 52)] rfl rfl rfl rfl rfl rfl (Nat.le_of_ble_eq_true rfl) ?_
  rintro _ _ ⟨rfl, rfl⟩
  refine mj_k rfl rfl ?_
  exact mj_vret h rfl d_Sw_wipe_7 (by decide) (by decide) ⟨rfl, rfl⟩
def qWire (n : Nat) (f : Nat → Int32) (k : Int32) : Int32 := if k = -1 then nI n else if 0 ≤ k ∧ k < nI n then wA n f k else -1
def qPut (n : Nat) (k : Int32) : Prop := ¬ k < 1 ∧ ¬ 8 < k ∧ n + k.toNatClampNeg ≤ 100
theorem qNum {k : Int32} (h1 : ¬ k < 1) (h2 : ¬ 8 < k) : ∃ j : Nat, 1 ≤ j ∧ j ≤ 8 ∧ k = nI j := by
  have a1 := Int32.le_iff_toInt_le.mp (Int32.not_lt.mp h1)
  have a2 := Int32.le_iff_toInt_le.mp (Int32.not_lt.mp h2)
  rw [show (1 : Int32).toInt = 1 by decide] at a1
  rw [show (8 : Int32).toInt = 8 by decide] at a2
  obtain ⟨j, hj, rfl⟩ := nI_of (x := k) (fun h9 => by
    have := Int32.lt_iff_toInt_lt.mp h9
    rw [Int32.toInt_zero] at this
    omega)
  rw [nI_toInt hj] at a1 a2
  exact ⟨j, by omega, by omega, rfl⟩
theorem ev_Wi_append1 (n : Nat) (hn : n ≤ 100) (f : Nat → Int32) (j : Nat) (hj : j ≤ 8) (v : Int64) (hc : n + j ≤ 100) : E0_Wi_append l D cA [.ref 0, .int (nI j), .long v] (wWi n f) (some (.int 1)) (wWi (n + j) (wApp j n f v)) := by
  have h := ev_Wi_append l D cA n hn f j hj v
  rw [if_pos hc, if_pos hc] at h
  exact h
theorem ev_Wi_append0 (n : Nat) (hn : n ≤ 100) (f : Nat → Int32) (j : Nat) (hj : j ≤ 8) (v : Int64) (hc : ¬ n + j ≤ 100) : E0_Wi_append l D cA [.ref 0, .int (nI j), .long v] (wWi n f) (some (.int 0)) (wWi n f) := by
  have h := ev_Wi_append l D cA n hn f j hj v
  rw [if_neg hc, if_neg hc] at h
  exact h
set_option maxRecDepth 100000 in
set_option maxHeartbeats 4000000 in
theorem ev_Sw_wire (n : Nat) (hn : n ≤ 100) (f : Nat → Int32) (k : Int32) : E0_Sw_wire l D cA [.ref 50, .int k] [(50, cSw st rc), (51, cWi 52 n), (52, cIs 100 f)] (some (.int (qWire n f k))) [(50, cSw st rc), (51, cWi 52 n), (52, cIs 100 f)] := by
  refine mj_ev (lv := [(0, .ref 50), (1, .int k)]) (by decide +kernel) (Nat.le_of_ble_eq_true rfl) rfl (fun X h => ?_)
  refine mj_blk h.1 b_Sw_wire_0 rfl trivial ?_
  refine mj_icne h.1 (tgt := 13) d_Sw_wire_2 (by decide) (fun h1 => ?_) (fun h1 => ?_)
  · refine mj_blk h.1 b_Sw_wire_13 rfl trivial ?_
    refine mj_callV h zGood (ev_Wi_has l D cA _ _ _) v_Wi_has l_Sw_wire_18 d_Sw_wire_18 rfl ⟨by decide, by decide⟩ ⟨by decide, by decide⟩ [(0, 51), (1, 52)] rfl rfl rfl rfl rfl rfl (Nat.le_of_ble_eq_true rfl) ?_
    rintro _ _ ⟨rfl, rfl⟩
    refine mj_k rfl rfl ?_
    first | refine mj_ifeqB h.1 (tgt := 35) d_Sw_wire_21 (by decide) (fun h2 => ?_) (fun h2 => ?_) | refine mj_ifeq h.1 (tgt := 35) d_Sw_wire_21 (by decide) (fun h2 => ?_) (fun h2 => ?_)
    · refine mj_blk h.1 b_Sw_wire_35 rfl trivial ?_
      exact mj_iret h rfl d_Sw_wire_36 (by decide) (by decide) ⟨by unfold qWire; rw [if_neg h1, if_neg h2], rfl⟩
    · refine mj_blk h.1 b_Sw_wire_24 rfl trivial ?_
      refine mj_callV h zGood (ev_Wi_at l D cA _ hn _ _) v_Wi_at l_Sw_wire_29 d_Sw_wire_29 rfl ⟨by decide, by decide⟩ ⟨by decide, by decide⟩ [(0, 51), (1, 52)] rfl rfl rfl rfl rfl rfl (Nat.le_of_ble_eq_true rfl) ?_
      rintro _ _ ⟨rfl, rfl⟩
      refine mj_k rfl rfl ?_
      refine mj_blk h.1 b_Sw_wire_32 rfl trivial ?_
      exact mj_iret h rfl d_Sw_wire_36 (by decide) (by decide) ⟨by unfold qWire; rw [if_neg h1, if_pos h2], rfl⟩
  · refine mj_blk h.1 b_Sw_wire_5 rfl trivial ?_
    refine mj_callV h zGood (ev_Wi_size l D cA _ _) v_Wi_size l_Sw_wire_9 d_Sw_wire_9 rfl ⟨by decide, by decide⟩ ⟨by decide, by decide⟩ [(0, 51), (1, 52)] rfl rfl rfl rfl rfl rfl (Nat.le_of_ble_eq_true rfl) ?_
    rintro _ _ ⟨rfl, rfl⟩
    refine mj_k rfl rfl ?_
    exact mj_iret h rfl d_Sw_wire_12 (by decide) (by decide) ⟨by unfold qWire; rw [if_pos h1], rfl⟩
set_option maxRecDepth 100000 in
set_option maxHeartbeats 4000000 in
theorem ev_Sw_put1 (n : Nat) (hn : n ≤ 100) (f : Nat → Int32) (j : Nat) (hj1 : 1 ≤ j) (hj : j ≤ 8) (hc : n + j ≤ 100) (v : Int64) : E0_Sw_put l D cA [.ref 50, .int (nI j), .long v] [(50, cSw st rc), (51, cWi 52 n), (52, cIs 100 f)] (some (.int 1)) [(50, cSw st rc), (51, cWi 52 (n + j)), (52, cIs 100 (wApp j n f v))] := by
  refine mj_ev (lv := [(0, .ref 50), (1, .int (nI j)), (2, .long v)]) (by decide +kernel) (Nat.le_of_ble_eq_true rfl) rfl (fun X h => ?_)
  refine mj_blk h.1 b_Sw_put_0 rfl trivial ?_
  refine mj_iclt h.1 (tgt := 27) d_Sw_put_2 (by decide) (fun h1 => ?_) (fun h1 => ?_)
  · exact absurd ((nI_ltI (b := 1) (by omega) (by decide)).mp h1) (by omega)
  · refine mj_blk h.1 b_Sw_put_5 rfl trivial ?_
    refine mj_icgt h.1 (tgt := 27) d_Sw_put_8 (by decide) (fun h2 => ?_) (fun h2 => ?_)
    · exact absurd ((nI_ltI (a := 8) (by decide) (by omega)).mp h2) (by omega)
    · refine mj_blk h.1 b_Sw_put_11 rfl trivial ?_
      refine mj_callV h zGood (ev_Wi_append1 l D cA n hn f j hj v hc) v_Wi_append l_Sw_put_17 d_Sw_put_17 rfl ⟨by decide, by decide⟩ ⟨by decide, by decide⟩ [(0, 51), (1, 52)] rfl rfl rfl rfl rfl rfl (Nat.le_of_ble_eq_true rfl) ?_
      rintro _ _ ⟨rfl, rfl⟩
      refine mj_k rfl rfl ?_
      refine mj_ifeq1 h.1 (tgt := 27) d_Sw_put_20 (by decide) ?_
      refine mj_blk h.1 b_Sw_put_23 rfl trivial ?_
      exact mj_zret h rfl (Or.inr rfl) d_Sw_put_28 (by decide) (by decide) ⟨rfl, rfl⟩
set_option maxRecDepth 100000 in
set_option maxHeartbeats 4000000 in
theorem ev_Sw_put2 (n : Nat) (hn : n ≤ 100) (f : Nat → Int32) (j : Nat) (hj1 : 1 ≤ j) (hj : j ≤ 8) (hc : ¬ n + j ≤ 100) (v : Int64) : E0_Sw_put l D cA [.ref 50, .int (nI j), .long v] [(50, cSw st rc), (51, cWi 52 n), (52, cIs 100 f)] (some (.int 0)) [(50, cSw st rc), (51, cWi 52 n), (52, cIs 100 f)] := by
  refine mj_ev (lv := [(0, .ref 50), (1, .int (nI j)), (2, .long v)]) (by decide +kernel) (Nat.le_of_ble_eq_true rfl) rfl (fun X h => ?_)
  refine mj_blk h.1 b_Sw_put_0 rfl trivial ?_
  refine mj_iclt h.1 (tgt := 27) d_Sw_put_2 (by decide) (fun h1 => ?_) (fun h1 => ?_)
  · exact absurd ((nI_ltI (b := 1) (by omega) (by decide)).mp h1) (by omega)
  · refine mj_blk h.1 b_Sw_put_5 rfl trivial ?_
    refine mj_icgt h.1 (tgt := 27) d_Sw_put_8 (by decide) (fun h2 => ?_) (fun h2 => ?_)
    · exact absurd ((nI_ltI (a := 8) (by decide) (by omega)).mp h2) (by omega)
    · refine mj_blk h.1 b_Sw_put_11 rfl trivial ?_
      refine mj_callV h zGood (ev_Wi_append0 l D cA n hn f j hj v hc) v_Wi_append l_Sw_put_17 d_Sw_put_17 rfl ⟨by decide, by decide⟩ ⟨by decide, by decide⟩ [(0, 51), (1, 52)] rfl rfl rfl rfl rfl rfl (Nat.le_of_ble_eq_true rfl) ?_
      rintro _ _ ⟨rfl, rfl⟩
      refine mj_k rfl rfl ?_
      refine mj_ifeq0 h.1 (tgt := 27) d_Sw_put_20 (by decide) ?_
      refine mj_blk h.1 b_Sw_put_27 rfl trivial ?_
      exact mj_zret h rfl (Or.inl rfl) d_Sw_put_28 (by decide) (by decide) ⟨rfl, rfl⟩
set_option maxRecDepth 100000 in
set_option maxHeartbeats 4000000 in
theorem ev_Sw_put0 (n : Nat) (hn : n ≤ 100) (f : Nat → Int32) (k : Int32) (v : Int64) (hk : k < 1 ∨ 8 < k) : E0_Sw_put l D cA [.ref 50, .int k, .long v] [(50, cSw st rc), (51, cWi 52 n), (52, cIs 100 f)] (some (.int 0)) [(50, cSw st rc), (51, cWi 52 n), (52, cIs 100 f)] := by
  refine mj_ev (lv := [(0, .ref 50), (1, .int k), (2, .long v)]) (by decide +kernel) (Nat.le_of_ble_eq_true rfl) rfl (fun X h => ?_)
  refine mj_blk h.1 b_Sw_put_0 rfl trivial ?_
  refine mj_iclt h.1 (tgt := 27) d_Sw_put_2 (by decide) (fun h1 => ?_) (fun h1 => ?_)
  · refine mj_blk h.1 b_Sw_put_27 rfl trivial ?_
    exact mj_zret h rfl (Or.inl rfl) d_Sw_put_28 (by decide) (by decide) ⟨rfl, rfl⟩
  · refine mj_blk h.1 b_Sw_put_5 rfl trivial ?_
    refine mj_icgt h.1 (tgt := 27) d_Sw_put_8 (by decide) (fun h2 => ?_) (fun h2 => ?_)
    · refine mj_blk h.1 b_Sw_put_27 rfl trivial ?_
      exact mj_zret h rfl (Or.inl rfl) d_Sw_put_28 (by decide) (by decide) ⟨rfl, rfl⟩
    · exact absurd hk (fun z => z.elim h1 h2)
def aRd (rows : Nat → Int32) (tot nw k w : Int32) : Int32 := if k < 0 then -1 else if (if 24 < tot then 24 else tot) ≤ k then -1 else if w < 0 then -1 else if w < 4 then (if nw < k then rows ((nw - k + 24) * 4 + w).toNatClampNeg else rows ((nw - k) * 4 + w).toNatClampNeg) else -1
theorem aIx {tot nw k w : Int32} (hb : (∃ b : Nat, b < 24 ∧ nw = nI b) ∨ tot = 0) (h1 : ¬ k < 0) (h2 : ¬ (if 24 < tot then 24 else tot) ≤ k) (h3 : ¬ w < 0) (h4 : w < 4) : vp_in ((if nw < k then nw - k + 24 else nw - k) * 4 + w) 96 := by
  obtain ⟨j, hj, rfl⟩ := nI_of h1
  obtain ⟨i, hi, rfl⟩ := nI_of h3
  have hi4 : i < 4 := (nI_ltI (b := 4) hi (by decide)).mp h4
  rcases hb with ⟨b, hb, rfl⟩ | rfl
  · have hj24 : j < 24 := by
      have h5 := Int32.not_le.mp h2
      by_cases h6 : 24 < tot
      · rw [if_pos h6] at h5
        exact (nI_ltI (b := 24) hj (by decide)).mp h5
      · rw [if_neg h6] at h5
        exact (nI_ltI (b := 24) hj (by decide)).mp (Int32.lt_of_lt_of_le h5 (Int32.not_lt.mp h6))
    by_cases h7 : nI b < nI j
    · have h8 := (nI_ltI (by omega) hj).mp h7
      rw [if_pos h7, show (24 : Int32) = nI 24 from rfl, show nI b - nI j + nI 24 = nI (b + 24 - j) by
        rw [← pk_sub (by omega), ← nI_add, Int32.sub_eq_add_neg, Int32.sub_eq_add_neg, Int32.add_assoc, Int32.add_assoc, Int32.add_comm (-nI j)], show (4 : Int32) = nI 4 from rfl, pk_mul, nI_add]
      exact vp_in_nI (by omega) (by decide)
    · have h8 : j ≤ b := Nat.le_of_not_lt fun h9 => h7 (nI_lt h9 hj)
      rw [if_neg h7, pk_sub h8, show (4 : Int32) = nI 4 from rfl, pk_mul, nI_add]
      exact vp_in_nI (by omega) (by decide)
  · have h5 := Int32.not_le.mp h2
    rw [if_neg (show ¬ (24 : Int32) < 0 by decide)] at h5
    exact absurd h5 (nI_pos hj)
set_option maxRecDepth 100000 in
set_option maxHeartbeats 4000000 in
theorem ev_Al_read (rows : Nat → Int32) (tot nw : Int32) (hb : (∃ b : Nat, b < 24 ∧ nw = nI b) ∨ tot = 0) (k w : Int32) : E0_Al_read l D cA [.ref 0, .int k, .int w] (wAl rows tot nw) (some (.int (aRd rows tot nw k w))) (wAl rows tot nw) := by
  refine mj_ev (lv := [(0, .ref 0), (1, .int k), (2, .int w)]) (by decide +kernel) (Nat.le_of_ble_eq_true rfl) rfl (fun X h => ?_)
  refine mj_blk h.1 b_Al_read_0 rfl trivial ?_
  refine mj_iflt h.1 (tgt := 21) d_Al_read_1 (by decide) (fun h1 => ?_) (fun h1 => ?_)
  · refine mj_blk h.1 b_Al_read_21 rfl trivial ?_
    refine mj_blk h.1 b_Al_read_22 rfl trivial ?_
    refine mj_ifeq0 h.1 (tgt := 36) d_Al_read_24 (by decide) ?_
    refine mj_blk h.1 b_Al_read_36 rfl trivial ?_
    exact mj_iret h rfl d_Al_read_37 (by decide) (by decide) ⟨by unfold aRd; rw [if_pos h1], rfl⟩
  · refine mj_blk h.1 b_Al_read_4 rfl trivial ?_
    refine mj_min h z3_108 z3_30 z1_15 z3_31 (by decide) (Nat.le_of_ble_eq_true rfl) (by decide) (by decide) d_Al_read_11 ?_
    refine mj_icge h.1 (tgt := 21) d_Al_read_14 (by decide) (fun h3 => ?_) (fun h3 => ?_)
    · refine mj_blk h.1 b_Al_read_21 rfl trivial ?_
      refine mj_blk h.1 b_Al_read_22 rfl trivial ?_
      refine mj_ifeq0 h.1 (tgt := 36) d_Al_read_24 (by decide) ?_
      refine mj_blk h.1 b_Al_read_36 rfl trivial ?_
      exact mj_iret h rfl d_Al_read_37 (by decide) (by decide) ⟨by unfold aRd; rw [if_neg h1, if_pos h3], rfl⟩
    · refine mj_blk h.1 b_Al_read_17 rfl trivial ?_
      refine mj_blk h.1 b_Al_read_22 rfl trivial ?_
      refine mj_ifeq1 h.1 (tgt := 36) d_Al_read_24 (by decide) ?_
      refine mj_blk h.1 b_Al_read_27 rfl trivial ?_
      refine mj_iflt h.1 (tgt := 36) d_Al_read_28 (by decide) (fun h6 => ?_) (fun h6 => ?_)
      · refine mj_blk h.1 b_Al_read_36 rfl trivial ?_
        exact mj_iret h rfl d_Al_read_37 (by decide) (by decide) ⟨by unfold aRd; rw [if_neg h1, if_neg h3, if_pos h6], rfl⟩
      · refine mj_blk h.1 b_Al_read_31 rfl trivial ?_
        refine mj_iclt h.1 (tgt := 38) d_Al_read_33 (by decide) (fun h7 => ?_) (fun h7 => ?_)
        · refine mj_blk h.1 b_Al_read_38 rfl trivial ?_
          refine mj_iclt h.1 (tgt := 55) d_Al_read_43 (by decide) (fun h8 => ?_) (fun h8 => ?_)
          · refine mj_blk h.1 b_Al_read_55 rfl trivial ?_
            refine mj_blk h.1 b_Al_read_64 rfl ⟨by have h9 := aIx hb h1 h3 h6 h7; rw [if_pos h8] at h9; exact h9, trivial⟩ ?_
            exact mj_iret h rfl d_Al_read_77 (by decide) (by decide) ⟨by unfold aRd; rw [if_neg h1, if_neg h3, if_neg h6, if_pos h7, if_pos h8], rfl⟩
          · refine mj_blk h.1 b_Al_read_46 rfl trivial ?_
            refine mj_blk h.1 b_Al_read_64 rfl ⟨by have h9 := aIx hb h1 h3 h6 h7; rw [if_neg h8] at h9; exact h9, trivial⟩ ?_
            exact mj_iret h rfl d_Al_read_77 (by decide) (by decide) ⟨by unfold aRd; rw [if_neg h1, if_neg h3, if_neg h6, if_pos h7, if_neg h8], rfl⟩
        · refine mj_blk h.1 b_Al_read_36 rfl trivial ?_
          exact mj_iret h rfl d_Al_read_37 (by decide) (by decide) ⟨by unfold aRd; rw [if_neg h1, if_neg h3, if_neg h6, if_neg h7], rfl⟩
set_option maxRecDepth 100000 in
set_option maxHeartbeats 4000000 in
theorem ev_Sw_alerts (rows : Nat → Int32) (tot nw : Int32) : E0_Sw_alerts l D cA [.ref 50] [(50, cSw st rc), (70, .inr (0, [.ref 71, .int tot, .int nw])), (71, cIs 96 rows)] (some (.int tot)) [(50, cSw st rc), (70, .inr (0, [.ref 71, .int tot, .int nw])), (71, cIs 96 rows)] := by
  refine mj_ev (lv := [(0, .ref 50)]) (by decide +kernel) (Nat.le_of_ble_eq_true rfl) rfl (fun X h => ?_)
  refine mj_blk h.1 b_Sw_alerts_0 rfl trivial ?_
  refine mj_callV h zGood (ev_Al_total l D cA _ _ _) v_Al_total l_Sw_alerts_4 d_Sw_alerts_4 rfl ⟨by decide, by decide⟩ ⟨by decide, by decide⟩ [(0, 70), (1, 71)] rfl rfl rfl rfl rfl rfl (Nat.le_of_ble_eq_true rfl) ?_
  rintro _ _ ⟨rfl, rfl⟩
  refine mj_k rfl rfl ?_
  exact mj_iret h rfl d_Sw_alerts_7 (by decide) (by decide) ⟨rfl, rfl⟩
set_option maxRecDepth 100000 in
set_option maxHeartbeats 4000000 in
theorem ev_Sw_alert (rows : Nat → Int32) (tot nw : Int32) (hb : (∃ b : Nat, b < 24 ∧ nw = nI b) ∨ tot = 0) (k w : Int32) : E0_Sw_alert l D cA [.ref 50, .int k, .int w] [(50, cSw st rc), (70, .inr (0, [.ref 71, .int tot, .int nw])), (71, cIs 96 rows)] (some (.int (aRd rows tot nw k w))) [(50, cSw st rc), (70, .inr (0, [.ref 71, .int tot, .int nw])), (71, cIs 96 rows)] := by
  refine mj_ev (lv := [(0, .ref 50), (1, .int k), (2, .int w)]) (by decide +kernel) (Nat.le_of_ble_eq_true rfl) rfl (fun X h => ?_)
  refine mj_blk h.1 b_Sw_alert_0 rfl trivial ?_
  refine mj_callV h zGood (ev_Al_read l D cA _ _ _ hb _ _) v_Al_read l_Sw_alert_6 d_Sw_alert_6 rfl ⟨by decide, by decide⟩ ⟨by decide, by decide⟩ [(0, 70), (1, 71)] rfl rfl rfl rfl rfl rfl (Nat.le_of_ble_eq_true rfl) ?_
  rintro _ _ ⟨rfl, rfl⟩
  refine mj_k rfl rfl ?_
  exact mj_iret h rfl d_Sw_alert_9 (by decide) (by decide) ⟨rfl, rfl⟩
end SWA
