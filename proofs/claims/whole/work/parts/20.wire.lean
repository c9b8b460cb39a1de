/-! Wire: its world, its pure answers, its methods (by program: wip/whole/src_wire.py) -/
abbrev wWi (n : Nat) (f : Nat → Int32) : mj_M := [(0, .inr (9, [.ref 1, .int (nI n)])), (1, .inl (0, 100, .inl f))]
def wA (n : Nat) (f : Nat → Int32) (k : Int32) : Int32 := if 0 ≤ k ∧ k < nI n then f k.toNatClampNeg else 0
def wPair (n : Nat) (f : Nat → Int32) (k : Int32) : Int32 := wA n f k <<< ((8 : Int32) &&& 31) ||| wA n f (k + 1)
def wQuad (n : Nat) (f : Nat → Int32) (k : Int32) : Int32 := wPair n f k <<< ((16 : Int32) &&& 31) ||| wPair n f (k + 2)
def wIp (n : Nat) (f : Nat → Int32) : Int32 := (wA n f 0 &&& 15) * 4
def wTw (n : Nat) (f : Nat → Int32) : Int32 := wA n f (wIp n f + 12) >>> ((4 : Int32) &&& 31)
def wDs (n : Nat) (f : Nat → Int32) : Int32 := wIp n f + wTw n f * 4
def wAdd (s x : Int32) : Int32 := ((s + x) &&& 65535) + ((s + x).toUInt32 >>> ((16 : Int32).toUInt32 &&& Int32.toUInt32 31)).toInt32
theorem vp_in_of2 {n N : Nat} {k : Int32} (h : 0 ≤ k ∧ k < nI n) (hn : n ≤ N) (hN : N < 2 ^ 31) : vp_in k N := by
  rw [vp_in_iff]
  have h1 := Int32.le_iff_toInt_le.mp h.1
  have h2 := Int32.lt_iff_toInt_lt.mp h.2
  rw [nI_toInt (by omega)] at h2
  rw [Int32.toInt_zero] at h1
  omega
section WIRE
variable (l : Launch) (D : va_G) (cA : Nat → ClassId)

set_option maxRecDepth 100000 in
set_option maxHeartbeats 4000000 in
theorem ev_Wi_size (n : Nat) (f : Nat → Int32) : E0_Wi_size l D cA [.ref 0] (wWi n f) (some (.int (nI n))) (wWi n f) := by
  refine mj_ev (lv := [(0, .ref 0)]) (by decide +kernel) (Nat.le_of_ble_eq_true rfl) rfl (fun X h => ?_)
  refine mj_blk h.1 b_Wi_size_0 rfl trivial ?_
  exact mj_iret h rfl d_Wi_size_4 (by decide) (by decide) ⟨rfl, rfl⟩
set_option maxRecDepth 100000 in
set_option maxHeartbeats 4000000 in
theorem ev_Wi_has (n : Nat) (f : Nat → Int32) (k : Int32) : E0_Wi_has l D cA [.ref 0, .int k] (wWi n f) (some (.int (if 0 ≤ k ∧ k < nI n then 1 else 0))) (wWi n f) := by
  refine mj_ev (lv := [(0, .ref 0), (1, .int k)]) (by decide +kernel) (Nat.le_of_ble_eq_true rfl) rfl (fun X h => ?_)
  refine mj_blk h.1 b_Wi_has_0 rfl trivial ?_
  refine mj_iflt h.1 (tgt := 16) d_Wi_has_1 (by decide) (fun h1 => ?_) (fun h1 => ?_)
  · refine mj_blk h.1 b_Wi_has_16 rfl trivial ?_
    exact mj_zret h rfl (by first | exact Or.inl rfl | exact Or.inr rfl) d_Wi_has_17 (by decide) (by decide) ⟨by rw [if_neg (fun h9 => Int32.not_le.mpr h1 h9.1)], rfl⟩
  · refine mj_blk h.1 b_Wi_has_4 rfl trivial ?_
    refine mj_icge h.1 (tgt := 16) d_Wi_has_9 (by decide) (fun h2 => ?_) (fun h2 => ?_)
    · refine mj_blk h.1 b_Wi_has_16 rfl trivial ?_
      exact mj_zret h rfl (by first | exact Or.inl rfl | exact Or.inr rfl) d_Wi_has_17 (by decide) (by decide) ⟨by first | (rw [if_neg (fun h9 => Int32.not_lt.mpr h2 h9.2)]; done) | rw [if_pos ⟨Int32.not_lt.mp h1, Int32.not_le.mp h2⟩], rfl⟩
    · refine mj_blk h.1 b_Wi_has_12 rfl trivial ?_
      exact mj_zret h rfl (by first | exact Or.inl rfl | exact Or.inr rfl) d_Wi_has_17 (by decide) (by decide) ⟨by first | (rw [if_neg (fun h9 => Int32.not_lt.mpr h2 h9.2)]; done) | rw [if_pos ⟨Int32.not_lt.mp h1, Int32.not_le.mp h2⟩], rfl⟩
set_option maxRecDepth 100000 in
set_option maxHeartbeats 4000000 in
theorem ev_Wi_at (n : Nat) (hn : n ≤ 100) (f : Nat → Int32) (k : Int32) : E0_Wi_at l D cA [.ref 0, .int k] (wWi n f) (some (.int (wA n f k))) (wWi n f) := by
  refine mj_ev (lv := [(0, .ref 0), (1, .int k)]) (by decide +kernel) (Nat.le_of_ble_eq_true rfl) rfl (fun X h => ?_)
  refine mj_blk h.1 b_Wi_at_0 rfl trivial ?_
  refine mj_callV h zGood (ev_Wi_has l D cA _ _ _) v_Wi_has l_Wi_at_2 d_Wi_at_2 rfl ⟨by decide, by decide⟩ ⟨by decide, by decide⟩ [(0, 0), (1, 1)] rfl rfl rfl rfl rfl rfl (Nat.le_of_ble_eq_true rfl) ?_
  rintro _ _ ⟨rfl, rfl⟩
  refine mj_k rfl rfl ?_
  first | refine mj_ifeqB h.1 (tgt := 17) d_Wi_at_5 (by decide) (fun h1 => ?_) (fun h1 => ?_) | refine mj_ifeq h.1 (tgt := 17) d_Wi_at_5 (by decide) (fun h1 => ?_) (fun h1 => ?_)
  · refine mj_blk h.1 b_Wi_at_17 rfl trivial ?_
    exact mj_iret h rfl d_Wi_at_18 (by decide) (by decide) ⟨by unfold wA; first | rw [if_pos h1] | rw [if_neg h1], rfl⟩
  · refine mj_blk h.1 b_Wi_at_8 rfl ⟨vp_in_of2 h1 hn (by decide), trivial⟩ ?_
    exact mj_iret h rfl d_Wi_at_18 (by decide) (by decide) ⟨by unfold wA; first | rw [if_pos h1] | rw [if_neg h1], rfl⟩
set_option maxRecDepth 100000 in
set_option maxHeartbeats 4000000 in
theorem ev_Wi_clear (n : Nat) (f : Nat → Int32) : E0_Wi_clear l D cA [.ref 0] (wWi n f) none (wWi 0 f) := by
  refine mj_ev (lv := [(0, .ref 0)]) (by decide +kernel) (Nat.le_of_ble_eq_true rfl) rfl (fun X h => ?_)
  refine mj_blk h.1 b_Wi_clear_0 rfl trivial ?_
  exact mj_vret h rfl d_Wi_clear_5 (by decide) (by decide) ⟨rfl, rfl⟩
set_option maxRecDepth 100000 in
set_option maxHeartbeats 4000000 in
theorem ev_Wi_flip (n : Nat) (hn : n ≤ 100) (f : Nat → Int32) (k b : Int32) : E0_Wi_flip l D cA [.ref 0, .int k, .int b] (wWi n f) (some (.int (if 0 ≤ k ∧ k < nI n then 1 else 0))) (wWi n (if 0 ≤ k ∧ k < nI n then upd f k.toNatClampNeg (f k.toNatClampNeg ^^^ (b &&& 255)) else f)) := by
  refine mj_ev (lv := [(0, .ref 0), (1, .int k), (2, .int b)]) (by decide +kernel) (Nat.le_of_ble_eq_true rfl) rfl (fun X h => ?_)
  refine mj_blk h.1 b_Wi_flip_0 rfl trivial ?_
  refine mj_callV h zGood (ev_Wi_has l D cA _ _ _) v_Wi_has l_Wi_flip_2 d_Wi_flip_2 rfl ⟨by decide, by decide⟩ ⟨by decide, by decide⟩ [(0, 0), (1, 1)] rfl rfl rfl rfl rfl rfl (Nat.le_of_ble_eq_true rfl) ?_
  rintro _ _ ⟨rfl, rfl⟩
  refine mj_k rfl rfl ?_
  first | refine mj_ifneB h.1 (tgt := 10) d_Wi_flip_5 (by decide) (fun h1 => ?_) (fun h1 => ?_) | refine mj_ifne h.1 (tgt := 10) d_Wi_flip_5 (by decide) (fun h1 => ?_) (fun h1 => ?_)
  · refine mj_blk h.1 b_Wi_flip_10 rfl ⟨vp_in_of2 h1 hn (by decide), vp_in_of2 h1 hn (by decide), trivial⟩ ?_
    exact mj_zret h rfl (by first | exact Or.inl rfl | exact Or.inr rfl) d_Wi_flip_25 (by decide) (by decide) ⟨by first | rw [if_pos h1] | rw [if_neg h1], by first | rw [if_pos h1] | rw [if_neg h1]⟩
  · refine mj_blk h.1 b_Wi_flip_8 rfl trivial ?_
    exact mj_zret h rfl (by first | exact Or.inl rfl | exact Or.inr rfl) d_Wi_flip_9 (by decide) (by decide) ⟨by first | rw [if_pos h1] | rw [if_neg h1], by first | rw [if_pos h1] | rw [if_neg h1]⟩
set_option maxRecDepth 100000 in
set_option maxHeartbeats 4000000 in
theorem ev_Wi_pairAt (n : Nat) (hn : n ≤ 100) (f : Nat → Int32) (k : Int32) : E0_Wi_pairAt l D cA [.ref 0, .int k] (wWi n f) (some (.int (wPair n f k))) (wWi n f) := by
  refine mj_ev (lv := [(0, .ref 0), (1, .int k)]) (by decide +kernel) (Nat.le_of_ble_eq_true rfl) rfl (fun X h => ?_)
  refine mj_blk h.1 b_Wi_pairAt_0 rfl trivial ?_
  refine mj_callV h zGood (ev_Wi_at l D cA _ hn _ _) v_Wi_at l_Wi_pairAt_2 d_Wi_pairAt_2 rfl ⟨by decide, by decide⟩ ⟨by decide, by decide⟩ [(0, 0), (1, 1)] rfl rfl rfl rfl rfl rfl (Nat.le_of_ble_eq_true rfl) ?_
  rintro _ _ ⟨rfl, rfl⟩
  refine mj_k rfl rfl ?_
  refine mj_blk h.1 b_Wi_pairAt_5 rfl trivial ?_
  refine mj_callV h zGood (ev_Wi_at l D cA _ hn _ _) v_Wi_at l_Wi_pairAt_12 d_Wi_pairAt_12 rfl ⟨by decide, by decide⟩ ⟨by decide, by decide⟩ [(0, 0), (1, 1)] rfl rfl rfl rfl rfl rfl (Nat.le_of_ble_eq_true rfl) ?_
  rintro _ _ ⟨rfl, rfl⟩
  refine mj_k rfl rfl ?_
  refine mj_blk h.1 b_Wi_pairAt_15 rfl trivial ?_
  exact mj_iret h rfl d_Wi_pairAt_16 (by decide) (by decide) ⟨rfl, rfl⟩
set_option maxRecDepth 100000 in
set_option maxHeartbeats 4000000 in
theorem ev_Wi_quadAt (n : Nat) (hn : n ≤ 100) (f : Nat → Int32) (k : Int32) : E0_Wi_quadAt l D cA [.ref 0, .int k] (wWi n f) (some (.int (wQuad n f k))) (wWi n f) := by
  refine mj_ev (lv := [(0, .ref 0), (1, .int k)]) (by decide +kernel) (Nat.le_of_ble_eq_true rfl) rfl (fun X h => ?_)
  refine mj_blk h.1 b_Wi_quadAt_0 rfl trivial ?_
  refine mj_callV h zGood (ev_Wi_pairAt l D cA _ hn _ _) v_Wi_pairAt l_Wi_quadAt_2 d_Wi_quadAt_2 rfl ⟨by decide, by decide⟩ ⟨by decide, by decide⟩ [(0, 0), (1, 1)] rfl rfl rfl rfl rfl rfl (Nat.le_of_ble_eq_true rfl) ?_
  rintro _ _ ⟨rfl, rfl⟩
  refine mj_k rfl rfl ?_
  refine mj_blk h.1 b_Wi_quadAt_5 rfl trivial ?_
  refine mj_callV h zGood (ev_Wi_pairAt l D cA _ hn _ _) v_Wi_pairAt l_Wi_quadAt_12 d_Wi_quadAt_12 rfl ⟨by decide, by decide⟩ ⟨by decide, by decide⟩ [(0, 0), (1, 1)] rfl rfl rfl rfl rfl rfl (Nat.le_of_ble_eq_true rfl) ?_
  rintro _ _ ⟨rfl, rfl⟩
  refine mj_k rfl rfl ?_
  refine mj_blk h.1 b_Wi_quadAt_15 rfl trivial ?_
  exact mj_iret h rfl d_Wi_quadAt_16 (by decide) (by decide) ⟨rfl, rfl⟩
set_option maxRecDepth 100000 in
set_option maxHeartbeats 4000000 in
theorem ev_Wi_ipSize (n : Nat) (hn : n ≤ 100) (f : Nat → Int32) : E0_Wi_ipSize l D cA [.ref 0] (wWi n f) (some (.int (wIp n f))) (wWi n f) := by
  refine mj_ev (lv := [(0, .ref 0)]) (by decide +kernel) (Nat.le_of_ble_eq_true rfl) rfl (fun X h => ?_)
  refine mj_blk h.1 b_Wi_ipSize_0 rfl trivial ?_
  refine mj_callV h zGood (ev_Wi_at l D cA _ hn _ _) v_Wi_at l_Wi_ipSize_2 d_Wi_ipSize_2 rfl ⟨by decide, by decide⟩ ⟨by decide, by decide⟩ [(0, 0), (1, 1)] rfl rfl rfl rfl rfl rfl (Nat.le_of_ble_eq_true rfl) ?_
  rintro _ _ ⟨rfl, rfl⟩
  refine mj_k rfl rfl ?_
  refine mj_blk h.1 b_Wi_ipSize_5 rfl trivial ?_
  exact mj_iret h rfl d_Wi_ipSize_10 (by decide) (by decide) ⟨rfl, rfl⟩
set_option maxRecDepth 100000 in
set_option maxHeartbeats 4000000 in
theorem ev_Wi_length (n : Nat) (hn : n ≤ 100) (f : Nat → Int32) : E0_Wi_length l D cA [.ref 0] (wWi n f) (some (.int (wPair n f 2))) (wWi n f) := by
  refine mj_ev (lv := [(0, .ref 0)]) (by decide +kernel) (Nat.le_of_ble_eq_true rfl) rfl (fun X h => ?_)
  refine mj_blk h.1 b_Wi_length_0 rfl trivial ?_
  refine mj_callV h zGood (ev_Wi_pairAt l D cA _ hn _ _) v_Wi_pairAt l_Wi_length_2 d_Wi_length_2 rfl ⟨by decide, by decide⟩ ⟨by decide, by decide⟩ [(0, 0), (1, 1)] rfl rfl rfl rfl rfl rfl (Nat.le_of_ble_eq_true rfl) ?_
  rintro _ _ ⟨rfl, rfl⟩
  refine mj_k rfl rfl ?_
  exact mj_iret h rfl d_Wi_length_5 (by decide) (by decide) ⟨rfl, rfl⟩
set_option maxRecDepth 100000 in
set_option maxHeartbeats 4000000 in
theorem ev_Wi_tcpWords (n : Nat) (hn : n ≤ 100) (f : Nat → Int32) : E0_Wi_tcpWords l D cA [.ref 0] (wWi n f) (some (.int (wTw n f))) (wWi n f) := by
  refine mj_ev (lv := [(0, .ref 0)]) (by decide +kernel) (Nat.le_of_ble_eq_true rfl) rfl (fun X h => ?_)
  refine mj_blk h.1 b_Wi_tcpWords_0 rfl trivial ?_
  refine mj_callV h zGood (ev_Wi_ipSize l D cA _ hn _) v_Wi_ipSize l_Wi_tcpWords_2 d_Wi_tcpWords_2 rfl ⟨by decide, by decide⟩ ⟨by decide, by decide⟩ [(0, 0), (1, 1)] rfl rfl rfl rfl rfl rfl (Nat.le_of_ble_eq_true rfl) ?_
  rintro _ _ ⟨rfl, rfl⟩
  refine mj_k rfl rfl ?_
  refine mj_blk h.1 b_Wi_tcpWords_5 rfl trivial ?_
  refine mj_callV h zGood (ev_Wi_at l D cA _ hn _ _) v_Wi_at l_Wi_tcpWords_8 d_Wi_tcpWords_8 rfl ⟨by decide, by decide⟩ ⟨by decide, by decide⟩ [(0, 0), (1, 1)] rfl rfl rfl rfl rfl rfl (Nat.le_of_ble_eq_true rfl) ?_
  rintro _ _ ⟨rfl, rfl⟩
  refine mj_k rfl rfl ?_
  refine mj_blk h.1 b_Wi_tcpWords_11 rfl trivial ?_
  exact mj_iret h rfl d_Wi_tcpWords_13 (by decide) (by decide) ⟨rfl, rfl⟩
set_option maxRecDepth 100000 in
set_option maxHeartbeats 4000000 in
theorem ev_Wi_dataStart (n : Nat) (hn : n ≤ 100) (f : Nat → Int32) : E0_Wi_dataStart l D cA [.ref 0] (wWi n f) (some (.int (wDs n f))) (wWi n f) := by
  refine mj_ev (lv := [(0, .ref 0)]) (by decide +kernel) (Nat.le_of_ble_eq_true rfl) rfl (fun X h => ?_)
  refine mj_blk h.1 b_Wi_dataStart_0 rfl trivial ?_
  refine mj_callV h zGood (ev_Wi_ipSize l D cA _ hn _) v_Wi_ipSize l_Wi_dataStart_1 d_Wi_dataStart_1 rfl ⟨by decide, by decide⟩ ⟨by decide, by decide⟩ [(0, 0), (1, 1)] rfl rfl rfl rfl rfl rfl (Nat.le_of_ble_eq_true rfl) ?_
  rintro _ _ ⟨rfl, rfl⟩
  refine mj_k rfl rfl ?_
  refine mj_blk h.1 b_Wi_dataStart_4 rfl trivial ?_
  refine mj_callV h zGood (ev_Wi_tcpWords l D cA _ hn _) v_Wi_tcpWords l_Wi_dataStart_5 d_Wi_dataStart_5 rfl ⟨by decide, by decide⟩ ⟨by decide, by decide⟩ [(0, 0), (1, 1)] rfl rfl rfl rfl rfl rfl (Nat.le_of_ble_eq_true rfl) ?_
  rintro _ _ ⟨rfl, rfl⟩
  refine mj_k rfl rfl ?_
  refine mj_blk h.1 b_Wi_dataStart_8 rfl trivial ?_
  exact mj_iret h rfl d_Wi_dataStart_11 (by decide) (by decide) ⟨rfl, rfl⟩
set_option maxRecDepth 100000 in
set_option maxHeartbeats 4000000 in
theorem ev_Wi_addToSum (s x : Int32) : E0_Wi_addToSum l D cA [.int s, .int x] [] (some (.int (wAdd s x))) [] := by
  refine mj_ev (lv := [(0, .int s), (1, .int x)]) (by decide +kernel) (Nat.le_of_ble_eq_true rfl) rfl (fun X h => ?_)
  refine mj_blk h.1 b_Wi_addToSum_0 rfl trivial ?_
  exact mj_iret h rfl d_Wi_addToSum_13 (by decide) (by decide) ⟨rfl, rfl⟩
end WIRE
