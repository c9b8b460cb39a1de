/-! Wire: its world, its pure answers, its methods (by program: wip/whole/src_wire.py) -/
abbrev wWi (n : Nat) (f : Nat → Int32) : mj_M := [(0, .inr (9, [.ref 1, .int (nI n)])), (1, .inl (0, 100, .inl f))]
def wA (n : Nat) (f : Nat → Int32) (k : Int32) : Int32 := if 0 ≤ k ∧ k < nI n then f k.toNatClampNeg else 0
def wPair (n : Nat) (f : Nat → Int32) (k : Int32) : Int32 := wA n f k <<< ((8 : Int32) &&& 31) ||| wA n f (k + 1)
def wQuad (n : Nat) (f : Nat → Int32) (k : Int32) : Int32 := wPair n f k <<< ((16 : Int32) &&& 31) ||| wPair n f (k + 2)
def wIp (n : Nat) (f : Nat → Int32) : Int32 := (wA n f 0 &&& 15) * 4
def wIpN (n : Nat) (f : Nat → Int32) : Nat := (wA n f 0).toBitVec.toNat % 16 * 4
theorem wIp_eq (n : Nat) (f : Nat → Int32) : wIp n f = nI (wIpN n f) := by
  unfold wIp wIpN
  rw [pk_and _ 4 (m := 15) (by decide), show (4 : Int32) = nI 4 from rfl, pk_mul]
theorem wIp_le (n : Nat) (f : Nat → Int32) : wIpN n f ≤ 60 := by
  unfold wIpN
  omega
theorem wLenA {n ip : Nat} {x : Int32} (hn : n ≤ 100) (hi : ip ≤ 60) (h3 : ¬ nI n < x) (h4 : nI ip + 20 ≤ x) : x = nI x.toNatClampNeg ∧ x.toNatClampNeg ≤ n ∧ ip + 20 ≤ x.toNatClampNeg := by
  have e1 : nI ip + 20 = nI (ip + 20) := nI_add ip 20
  rw [e1] at h4
  have a1 := Int32.le_iff_toInt_le.mp h4
  have a2 := Int32.le_iff_toInt_le.mp (Int32.not_lt.mp h3)
  rw [nI_toInt (by omega)] at a1 a2
  obtain ⟨j, hj, rfl⟩ := nI_of (x := x) (fun h9 => by
    have := Int32.lt_iff_toInt_lt.mp h9
    rw [Int32.toInt_zero] at this
    omega)
  rw [nI_toInt hj] at a1 a2
  rw [nI_clamp hj]
  exact ⟨rfl, by omega, by omega⟩
def wTw (n : Nat) (f : Nat → Int32) : Int32 := wA n f (nI (wIpN n f) + 12) >>> ((4 : Int32) &&& 31)
def wDs (n : Nat) (f : Nat → Int32) : Int32 := nI (wIpN n f) + wTw n f * 4
def wAdd (s x : Int32) : Int32 := ((s + x) &&& 65535) + ((s + x).toUInt32 >>> ((16 : Int32).toUInt32 &&& Int32.toUInt32 31)).toInt32
theorem vp_in_of2 {n N : Nat} {k : Int32} (h : 0 ≤ k ∧ k < nI n) (hn : n ≤ N) (hN : N < 2 ^ 31) : vp_in k N := by
  rw [vp_in_iff]
  have h1 := Int32.le_iff_toInt_le.mp h.1
  have h2 := Int32.lt_iff_toInt_lt.mp h.2
  rw [nI_toInt (by omega)] at h2
  rw [Int32.toInt_zero] at h1
  omega
theorem wfit {n j : Nat} (hn : n ≤ 100) (hj : j ≤ 8) (h : n + j ≤ 100) : nI j ≤ 100 - nI n := by
  rw [show (100 : Int32) = nI 100 from rfl, pk_sub hn]
  exact nI_le (by omega) (by omega)
theorem wfit2 {n j : Nat} (hn : n ≤ 100) (hj : j ≤ 8) (h : nI j ≤ 100 - nI n) : n + j ≤ 100 := by
  rw [show (100 : Int32) = nI 100 from rfl, pk_sub hn] at h
  have := (nI_leI (by omega) (by omega)).mp h
  omega
section WIRE
variable (l : Launch) (D : va_G) (cA : Nat → ClassId)

set_option maxRecDepth 100000 in
set_option maxHeartbeats 4000000 in
theorem ev_Wi_size (n : Nat) (f : Nat → Int32) : E0_Wi_size l D cA [.ref 0] (wWi n f) (some (.int (nI n))) (wWi n f) := by
  refine mj_ev (lv := [(0, .ref 0)]) (by decide +kernel) (Nat.le_of_ble_eq_true rfl) rfl (fun X h => ?_)
  refine mj_blk h.1 b_Wi_size_0 rfl trivial ?_
  exact mj_iret h rfl d_Wi_size_4 (by decide) (by decide) ⟨rfl, rfl⟩
set_option maxRecDepth 100000 in
set_option maxHeartbeats 4000000 in
theorem ev_Wi_has (n : Nat) (f : Nat → Int32) (k : Int32) : E0_Wi_has l D cA [.ref 0, .int k] (wWi n f) (some (.int (if 0 ≤ k ∧ k < nI n then 1 else 0))) (wWi n f) := by
  refine mj_ev (lv := [(0, .ref 0), (1, .int k)]) (by decide +kernel) (Nat.le_of_ble_eq_true rfl) rfl (fun X h => ?_)
  refine mj_blk h.1 b_Wi_has_0 rfl trivial ?_
  refine mj_iflt h.1 (tgt := 16) d_Wi_has_1 (by decide) (fun h1 => ?_) (fun h1 => ?_)
  · refine mj_blk h.1 b_Wi_has_16 rfl trivial ?_
    exact mj_zret h rfl (by first | exact Or.inl rfl | exact Or.inr rfl) d_Wi_has_17 (by decide) (by decide) ⟨by rw [if_neg (fun h9 => Int32.not_le.mpr h1 h9.1)], rfl⟩
  · refine mj_blk h.1 b_Wi_has_4 rfl trivial ?_
    refine mj_icge h.1 (tgt := 16) d_Wi_has_9 (by decide) (fun h2 => ?_) (fun h2 => ?_)
    · refine mj_blk h.1 b_Wi_has_16 rfl trivial ?_
      exact mj_zret h rfl (by first | exact Or.inl rfl | exact Or.inr rfl) d_Wi_has_17 (by decide) (by decide) ⟨by first | (rw [if_neg (fun h9 => Int32.not_lt.mpr h2 h9.2)]; done) | rw [if_pos ⟨Int32.not_lt.mp h1, Int32.not_le.mp h2⟩], rfl⟩
    · refine mj_blk h.1 b_Wi_has_12 rfl trivial ?_
      exact mj_zret h rfl (by first | exact Or.inl rfl | exact Or.inr rfl) d_Wi_has_17 (by decide) (by decide) ⟨by first | (rw [if_neg (fun h9 => Int32.not_lt.mpr h2 h9.2)]; done) | rw [if_pos ⟨Int32.not_lt.mp h1, Int32.not_le.mp h2⟩], rfl⟩
set_option maxRecDepth 100000 in
set_option maxHeartbeats 4000000 in
theorem ev_Wi_at (n : Nat) (hn : n ≤ 100) (f : Nat → Int32) (k : Int32) : E0_Wi_at l D cA [.ref 0, .int k] (wWi n f) (some (.int (wA n f k))) (wWi n f) := by
  refine mj_ev (lv := [(0, .ref 0), (1, .int k)]) (by decide +kernel) (Nat.le_of_ble_eq_true rfl) rfl (fun X h => ?_)
  refine mj_blk h.1 b_Wi_at_0 rfl trivial ?_
  refine mj_callV h zGood (ev_Wi_has l D cA _ _ _) v_Wi_has l_Wi_at_2 d_Wi_at_2 rfl ⟨by decide, by decide⟩ ⟨by decide, by decide⟩ [(0, 0), (1, 1)] rfl rfl rfl rfl rfl rfl (Nat.le_of_ble_eq_true rfl) ?_
  rintro _ _ ⟨rfl, rfl⟩
  refine mj_k rfl rfl ?_
  first | refine mj_ifeqB h.1 (tgt := 17) d_Wi_at_5 (by decide) (fun h1 => ?_) (fun h1 => ?_) | refine mj_ifeq h.1 (tgt := 17) d_Wi_at_5 (by decide) (fun h1 => ?_) (fun h1 => ?_)
  · refine mj_blk h.1 b_Wi_at_17 rfl trivial ?_
    exact mj_iret h rfl d_Wi_at_18 (by decide) (by decide) ⟨by unfold wA; first | rw [if_pos h1] | rw [if_neg h1], rfl⟩
  · refine mj_blk h.1 b_Wi_at_8 rfl ⟨vp_in_of2 h1 hn (by decide), trivial⟩ ?_
    exact mj_iret h rfl d_Wi_at_18 (by decide) (by decide) ⟨by unfold wA; first | rw [if_pos h1] | rw [if_neg h1], rfl⟩
set_option maxRecDepth 100000 in
set_option maxHeartbeats 4000000 in
theorem ev_Wi_clear (n : Nat) (f : Nat → Int32) : E0_Wi_clear l D cA [.ref 0] (wWi n f) none (wWi 0 f) := by
  refine mj_ev (lv := [(0, .ref 0)]) (by decide +kernel) (Nat.le_of_ble_eq_true rfl) rfl (fun X h => ?_)
  refine mj_blk h.1 b_Wi_clear_0 rfl trivial ?_
  exact mj_vret h rfl d_Wi_clear_5 (by decide) (by decide) ⟨rfl, rfl⟩
set_option maxRecDepth 100000 in
set_option maxHeartbeats 4000000 in
theorem ev_Wi_flip (n : Nat) (hn : n ≤ 100) (f : Nat → Int32) (k b : Int32) : E0_Wi_flip l D cA [.ref 0, .int k, .int b] (wWi n f) (some (.int (if 0 ≤ k ∧ k < nI n then 1 else 0))) (wWi n (if 0 ≤ k ∧ k < nI n then upd f k.toNatClampNeg (f k.toNatClampNeg ^^^ (b &&& 255)) else f)) := by
  refine mj_ev (lv := [(0, .ref 0), (1, .int k), (2, .int b)]) (by decide +kernel) (Nat.le_of_ble_eq_true rfl) rfl (fun X h => ?_)
  refine mj_blk h.1 b_Wi_flip_0 rfl trivial ?_
  refine mj_callV h zGood (ev_Wi_has l D cA _ _ _) v_Wi_has l_Wi_flip_2 d_Wi_flip_2 rfl ⟨by decide, by decide⟩ ⟨by decide, by decide⟩ [(0, 0), (1, 1)] rfl rfl rfl rfl rfl rfl (Nat.le_of_ble_eq_true rfl) ?_
  rintro _ _ ⟨rfl, rfl⟩
  refine mj_k rfl rfl ?_
  first | refine mj_ifneB h.1 (tgt := 10) d_Wi_flip_5 (by decide) (fun h1 => ?_) (fun h1 => ?_) | refine mj_ifne h.1 (tgt := 10) d_Wi_flip_5 (by decide) (fun h1 => ?_) (fun h1 => ?_)
  · refine mj_blk h.1 b_Wi_flip_10 rfl ⟨vp_in_of2 h1 hn (by decide), vp_in_of2 h1 hn (by decide), trivial⟩ ?_
    exact mj_zret h rfl (by first | exact Or.inl rfl | exact Or.inr rfl) d_Wi_flip_25 (by decide) (by decide) ⟨by first | rw [if_pos h1] | rw [if_neg h1], by first | rw [if_pos h1] | rw [if_neg h1]⟩
  · refine mj_blk h.1 b_Wi_flip_8 rfl trivial ?_
    exact mj_zret h rfl (by first | exact Or.inl rfl | exact Or.inr rfl) d_Wi_flip_9 (by decide) (by decide) ⟨by first | rw [if_pos h1] | rw [if_neg h1], by first | rw [if_pos h1] | rw [if_neg h1]⟩
set_option maxRecDepth 100000 in
set_option maxHeartbeats 4000000 in
theorem ev_Wi_pairAt (n : Nat) (hn : n ≤ 100) (f : Nat → Int32) (k : Int32) : E0_Wi_pairAt l D cA [.ref 0, .int k] (wWi n f) (some (.int (wPair n f k))) (wWi n f) := by
  refine mj_ev (lv := [(0, .ref 0), (1, .int k)]) (by decide +kernel) (Nat.le_of_ble_eq_true rfl) rfl (fun X h => ?_)
  refine mj_blk h.1 b_Wi_pairAt_0 rfl trivial ?_
  refine mj_callV h zGood (ev_Wi_at l D cA _ hn _ _) v_Wi_at l_Wi_pairAt_2 d_Wi_pairAt_2 rfl ⟨by decide, by decide⟩ ⟨by decide, by decide⟩ [(0, 0), (1, 1)] rfl rfl rfl rfl rfl rfl (Nat.le_of_ble_eq_true rfl) ?_
  rintro _ _ ⟨rfl, rfl⟩
  refine mj_k rfl rfl ?_
  refine mj_blk h.1 b_Wi_pairAt_5 rfl trivial ?_
  refine mj_callV h zGood (ev_Wi_at l D cA _ hn _ _) v_Wi_at l_Wi_pairAt_12 d_Wi_pairAt_12 rfl ⟨by decide, by decide⟩ ⟨by decide, by decide⟩ [(0, 0), (1, 1)] rfl rfl rfl rfl rfl rfl (Nat.le_of_ble_eq_true rfl) ?_
  rintro _ _ ⟨rfl, rfl⟩
  refine mj_k rfl rfl ?_
  refine mj_blk h.1 b_Wi_pairAt_15 rfl trivial ?_
  exact mj_iret h rfl d_Wi_pairAt_16 (by decide) (by decide) ⟨rfl, rfl⟩
set_option maxRecDepth 100000 in
set_option maxHeartbeats 4000000 in
theorem ev_Wi_quadAt (n : Nat) (hn : n ≤ 100) (f : Nat → Int32) (k : Int32) : E0_Wi_quadAt l D cA [.ref 0, .int k] (wWi n f) (some (.int (wQuad n f k))) (wWi n f) := by
  refine mj_ev (lv := [(0, .ref 0), (1, .int k)]) (by decide +kernel) (Nat.le_of_ble_eq_true rfl) rfl (fun X h => ?_)
  refine mj_blk h.1 b_Wi_quadAt_0 rfl trivial ?_
  refine mj_callV h zGood (ev_Wi_pairAt l D cA _ hn _ _) v_Wi_pairAt l_Wi_quadAt_2 d_Wi_quadAt_2 rfl ⟨by decide, by decide⟩ ⟨by decide, by decide⟩ [(0, 0), (1, 1)] rfl rfl rfl rfl rfl rfl (Nat.le_of_ble_eq_true rfl) ?_
  rintro _ _ ⟨rfl, rfl⟩
  refine mj_k rfl rfl ?_
  refine mj_blk h.1 b_Wi_quadAt_5 rfl trivial ?_
  refine mj_callV h zGood (ev_Wi_pairAt l D cA _ hn _ _) v_Wi_pairAt l_Wi_quadAt_12 d_Wi_quadAt_12 rfl ⟨by decide, by decide⟩ ⟨by decide, by decide⟩ [(0, 0), (1, 1)] rfl rfl rfl rfl rfl rfl (Nat.le_of_ble_eq_true rfl) ?_
  rintro _ _ ⟨rfl, rfl⟩
  refine mj_k rfl rfl ?_
  refine mj_blk h.1 b_Wi_quadAt_15 rfl trivial ?_
  exact mj_iret h rfl d_Wi_quadAt_16 (by decide) (by decide) ⟨rfl, rfl⟩
set_option maxRecDepth 100000 in
set_option maxHeartbeats 4000000 in
theorem ev_Wi_ipSize (n : Nat) (hn : n ≤ 100) (f : Nat → Int32) : E0_Wi_ipSize l D cA [.ref 0] (wWi n f) (some (.int (nI (wIpN n f)))) (wWi n f) := by
  refine mj_ev (lv := [(0, .ref 0)]) (by decide +kernel) (Nat.le_of_ble_eq_true rfl) rfl (fun X h => ?_)
  refine mj_blk h.1 b_Wi_ipSize_0 rfl trivial ?_
  refine mj_callV h zGood (ev_Wi_at l D cA _ hn _ _) v_Wi_at l_Wi_ipSize_2 d_Wi_ipSize_2 rfl ⟨by decide, by decide⟩ ⟨by decide, by decide⟩ [(0, 0), (1, 1)] rfl rfl rfl rfl rfl rfl (Nat.le_of_ble_eq_true rfl) ?_
  rintro _ _ ⟨rfl, rfl⟩
  refine mj_k rfl rfl ?_
  refine mj_blk h.1 b_Wi_ipSize_5 rfl trivial ?_
  exact mj_iret h rfl d_Wi_ipSize_10 (by decide) (by decide) ⟨by rw [← wIp_eq]; rfl, rfl⟩
set_option maxRecDepth 100000 in
set_option maxHeartbeats 4000000 in
theorem ev_Wi_length (n : Nat) (hn : n ≤ 100) (f : Nat → Int32) : E0_Wi_length l D cA [.ref 0] (wWi n f) (some (.int (wPair n f 2))) (wWi n f) := by
  refine mj_ev (lv := [(0, .ref 0)]) (by decide +kernel) (Nat.le_of_ble_eq_true rfl) rfl (fun X h => ?_)
  refine mj_blk h.1 b_Wi_length_0 rfl trivial ?_
  refine mj_callV h zGood (ev_Wi_pairAt l D cA _ hn _ _) v_Wi_pairAt l_Wi_length_2 d_Wi_length_2 rfl ⟨by decide, by decide⟩ ⟨by decide, by decide⟩ [(0, 0), (1, 1)] rfl rfl rfl rfl rfl rfl (Nat.le_of_ble_eq_true rfl) ?_
  rintro _ _ ⟨rfl, rfl⟩
  refine mj_k rfl rfl ?_
  exact mj_iret h rfl d_Wi_length_5 (by decide) (by decide) ⟨rfl, rfl⟩
set_option maxRecDepth 100000 in
set_option maxHeartbeats 4000000 in
theorem ev_Wi_tcpWords (n : Nat) (hn : n ≤ 100) (f : Nat → Int32) : E0_Wi_tcpWords l D cA [.ref 0] (wWi n f) (some (.int (wTw n f))) (wWi n f) := by
  refine mj_ev (lv := [(0, .ref 0)]) (by decide +kernel) (Nat.le_of_ble_eq_true rfl) rfl (fun X h => ?_)
  refine mj_blk h.1 b_Wi_tcpWords_0 rfl trivial ?_
  refine mj_callV h zGood (ev_Wi_ipSize l D cA _ hn _) v_Wi_ipSize l_Wi_tcpWords_2 d_Wi_tcpWords_2 rfl ⟨by decide, by decide⟩ ⟨by decide, by decide⟩ [(0, 0), (1, 1)] rfl rfl rfl rfl rfl rfl (Nat.le_of_ble_eq_true rfl) ?_
  rintro _ _ ⟨rfl, rfl⟩
  refine mj_k rfl rfl ?_
  refine mj_blk h.1 b_Wi_tcpWords_5 rfl trivial ?_
  refine mj_callV h zGood (ev_Wi_at l D cA _ hn _ _) v_Wi_at l_Wi_tcpWords_8 d_Wi_tcpWords_8 rfl ⟨by decide, by decide⟩ ⟨by decide, by decide⟩ [(0, 0), (1, 1)] rfl rfl rfl rfl rfl rfl (Nat.le_of_ble_eq_true rfl) ?_
  rintro _ _ ⟨rfl, rfl⟩
  refine mj_k rfl rfl ?_
  refine mj_blk h.1 b_Wi_tcpWords_11 rfl trivial ?_
  exact mj_iret h rfl d_Wi_tcpWords_13 (by decide) (by decide) ⟨rfl, rfl⟩
set_option maxRecDepth 100000 in
set_option maxHeartbeats 4000000 in
theorem ev_Wi_dataStart (n : Nat) (hn : n ≤ 100) (f : Nat → Int32) : E0_Wi_dataStart l D cA [.ref 0] (wWi n f) (some (.int (wDs n f))) (wWi n f) := by
  refine mj_ev (lv := [(0, .ref 0)]) (by decide +kernel) (Nat.le_of_ble_eq_true rfl) rfl (fun X h => ?_)
  refine mj_blk h.1 b_Wi_dataStart_0 rfl trivial ?_
  refine mj_callV h zGood (ev_Wi_ipSize l D cA _ hn _) v_Wi_ipSize l_Wi_dataStart_1 d_Wi_dataStart_1 rfl ⟨by decide, by decide⟩ ⟨by decide, by decide⟩ [(0, 0), (1, 1)] rfl rfl rfl rfl rfl rfl (Nat.le_of_ble_eq_true rfl) ?_
  rintro _ _ ⟨rfl, rfl⟩
  refine mj_k rfl rfl ?_
  refine mj_blk h.1 b_Wi_dataStart_4 rfl trivial ?_
  refine mj_callV h zGood (ev_Wi_tcpWords l D cA _ hn _) v_Wi_tcpWords l_Wi_dataStart_5 d_Wi_dataStart_5 rfl ⟨by decide, by decide⟩ ⟨by decide, by decide⟩ [(0, 0), (1, 1)] rfl rfl rfl rfl rfl rfl (Nat.le_of_ble_eq_true rfl) ?_
  rintro _ _ ⟨rfl, rfl⟩
  refine mj_k rfl rfl ?_
  refine mj_blk h.1 b_Wi_dataStart_8 rfl trivial ?_
  exact mj_iret h rfl d_Wi_dataStart_11 (by decide) (by decide) ⟨rfl, rfl⟩
set_option maxRecDepth 100000 in
set_option maxHeartbeats 4000000 in
theorem ev_Wi_addToSum (s x : Int32) : E0_Wi_addToSum l D cA [.int s, .int x] [] (some (.int (wAdd s x))) [] := by
  refine mj_ev (lv := [(0, .int s), (1, .int x)]) (by decide +kernel) (Nat.le_of_ble_eq_true rfl) rfl (fun X h => ?_)
  refine mj_blk h.1 b_Wi_addToSum_0 rfl trivial ?_
  exact mj_iret h rfl d_Wi_addToSum_13 (by decide) (by decide) ⟨rfl, rfl⟩
theorem mj_m1 (x : Int32) : x + (-1) = x - 1 := by rw [Int32.sub_eq_add_neg]
theorem mj_neg {r : Nat} (h : r < 2 ^ 31) : nI r - 1 < 0 ↔ r = 0 := by
  cases r with
  | zero => exact ⟨fun _ => rfl, fun _ => by decide⟩
  | succ r =>
    rw [nI_pred]
    exact ⟨fun h1 => absurd h1 (nI_pos (by omega)), fun h1 => by omega⟩
/-- byte i of a long -/
def wB (v : Int64) (i : Int32) : Int32 := (v.toUInt64 >>> ((8 * i).toInt64.toUInt64 &&& Int64.toUInt64 63)).toInt64.toInt32 &&& 255
/-- r bytes of v, the highest first, laid from place n on -/
def wApp : Nat → Nat → (Nat → Int32) → Int64 → (Nat → Int32)
  | 0, _, f, _ => f
  | r + 1, n, f, v => wApp r (n + 1) (upd f n (wB v (nI r))) v

set_option maxRecDepth 100000 in
set_option maxHeartbeats 4000000 in
theorem lp_Wi_append {X : mj_X} {post : mj_R} (h : mj_E zG X l D cA m_Wi_append 0 0 0 0 (fun _ => True) post) (j : Int32) (v : Int64) : ∀ (r n : Nat) (f : Nat → Int32), n + r ≤ 100 → r ≤ 8 → post (some (.int 1)) (wWi (n + r) (wApp r n f v)) → mj_W zG X 0 0 18 [(4, .int (nI r - 1)), (0, .ref 0), (1, .int j), (2, .long v)] [] (wWi n f) := by
  intro r
  induction r with
  | zero =>
    intro n f hn hr hp
    refine mj_blk h.1 b_Wi_append_18 rfl trivial ?_
    refine mj_iflt h.1 (tgt := 60) d_Wi_append_20 (by decide) (fun h1 => ?_) (fun h1 => ?_)
    · refine mj_blk h.1 b_Wi_append_60 rfl trivial ?_
      exact mj_zret h rfl (Or.inr rfl) d_Wi_append_61 (by decide) (by decide) hp
    · exact absurd ((mj_neg (by omega)).mpr rfl) h1
  | succ r ih =>
    intro n f hn hr hp
    refine mj_blk h.1 b_Wi_append_18 rfl trivial ?_
    refine mj_iflt h.1 (tgt := 60) d_Wi_append_20 (by decide) (fun h1 => ?_) (fun h1 => ?_)
    · exact absurd ((mj_neg (by omega)).mp h1) (Nat.succ_ne_zero _)
    · refine mj_blk h.1 b_Wi_append_23 rfl ⟨vp_in_nI (by omega) (by decide), trivial⟩ ?_
      rw [nI_pred, nI_clamp (by omega), ← nI_succ, mj_m1]
      exact ih (n + 1) _ (by omega) (by omega) (by rw [show n + 1 + r = n + (r + 1) by omega]; exact hp)
set_option maxRecDepth 100000 in
set_option maxHeartbeats 4000000 in
theorem ev_Wi_append (n : Nat) (hn : n ≤ 100) (f : Nat → Int32) (j : Nat) (hj : j ≤ 8) (v : Int64) : E0_Wi_append l D cA [.ref 0, .int (nI j), .long v] (wWi n f) (some (.int (if n + j ≤ 100 then 1 else 0))) (if n + j ≤ 100 then wWi (n + j) (wApp j n f v) else wWi n f) := by
  refine mj_ev (lv := [(0, .ref 0), (1, .int (nI j)), (2, .long v)]) (by decide +kernel) (Nat.le_of_ble_eq_true rfl) rfl (fun X h => ?_)
  refine mj_blk h.1 b_Wi_append_0 rfl trivial ?_
  refine mj_icle h.1 (tgt := 13) d_Wi_append_8 (by decide) (fun h1 => ?_) (fun h1 => ?_)
  · have hc : n + j ≤ 100 := wfit2 hn hj h1
    refine mj_blk h.1 b_Wi_append_13 rfl trivial ?_
    exact lp_Wi_append l D cA h _ _ j n f hc hj ⟨by rw [if_pos hc], by rw [if_pos hc]⟩
  · have hc : ¬ n + j ≤ 100 := fun h9 => h1 (wfit hn hj h9)
    refine mj_blk h.1 b_Wi_append_11 rfl trivial ?_
    exact mj_zret h rfl (Or.inl rfl) d_Wi_append_12 (by decide) (by decide) ⟨by rw [if_neg hc], by rw [if_neg hc]⟩
/-- the sum of the words from a up to b -/
def wSum (n : Nat) (f : Nat → Int32) : Nat → Nat → Nat → Int32 → Int32
  | 0, _, _, s => s
  | t + 1, a, b, s => if a < b then wSum n f t (a + 2) b (wAdd s (wA n f (nI a) <<< ((8 : Int32) &&& 31) ||| (if a + 1 < b then wA n f (nI a + 1) else 0))) else s
set_option maxRecDepth 100000 in
set_option maxHeartbeats 4000000 in
theorem lp_Wi_sumOf {X : mj_X} {post : mj_R} (n : Nat) (hn : n ≤ 100) (f : Nat → Int32) (b : Nat) (hb : b < 2 ^ 30) (p q : Int32) (h : mj_E zG X l D cA m_Wi_sumOf 2 80 0 0 (fun _ => True) post) : ∀ (t a : Nat) (s : Int32), b ≤ a + t → a ≤ b + 1 → post (some (.int (wSum n f t a b s))) (wWi n f) → mj_W zG X 0 0 6 [(5, .int (nI a)), (4, .int s), (0, .ref 0), (1, .int p), (2, .int (nI b)), (3, .int q)] [] (wWi n f) := by
  intro t
  induction t with
  | zero =>
    intro a s ht ha hp
    refine mj_blk h.1 b_Wi_sumOf_6 rfl trivial ?_
    refine mj_icge h.1 (tgt := 59) d_Wi_sumOf_9 (by decide) (fun h1 => ?_) (fun h1 => ?_)
    · refine mj_blk h.1 b_Wi_sumOf_59 rfl trivial ?_
      exact mj_iret h rfl d_Wi_sumOf_61 (by decide) (by decide) hp
    · exact absurd (nI_le (by omega) (by omega)) h1
  | succ t ih =>
    intro a s ht ha hp
    refine mj_blk h.1 b_Wi_sumOf_6 rfl trivial ?_
    refine mj_icge h.1 (tgt := 59) d_Wi_sumOf_9 (by decide) (fun g1 => ?_) (fun g1 => ?_)
    · have c1 : ¬ a < b := fun h9 => Int32.not_lt.mpr g1 (nI_lt h9 (by omega))
      have hp9 : post (some (.int s)) (wWi n f) := by
        have hp2 := hp
        unfold wSum at hp2
        rw [if_neg c1] at hp2
        exact hp2
      refine mj_blk h.1 b_Wi_sumOf_59 rfl trivial ?_
      exact mj_iret h rfl d_Wi_sumOf_61 (by decide) (by decide) hp9
    · have c1 : a < b := (nI_ltI (by omega) (by omega)).mp (Int32.not_le.mp g1)
      refine mj_blk h.1 b_Wi_sumOf_12 rfl trivial ?_
      refine mj_icge h.1 (tgt := 31) d_Wi_sumOf_17 (by decide) (fun g2 => ?_) (fun g2 => ?_)
      · have c2 : ¬ a + 1 < b := fun h9 => Int32.not_lt.mpr g2 (by rw [← nI_succ]; exact nI_lt h9 (by omega))
        have hp2 : post (some (.int (wSum n f t (a + 2) b (wAdd s (wA n f (nI a) <<< ((8 : Int32) &&& 31) ||| 0))))) (wWi n f) := by
          have hp2 := hp
          unfold wSum at hp2
          rw [if_pos c1, if_neg c2] at hp2
          exact hp2
        refine mj_blk h.1 b_Wi_sumOf_31 rfl trivial ?_
        refine mj_blk h.1 b_Wi_sumOf_32 rfl trivial ?_
        refine mj_callV h zGood (ev_Wi_at l D cA _ hn _ _) v_Wi_at l_Wi_sumOf_39 d_Wi_sumOf_39 rfl ⟨by decide, by decide⟩ ⟨by decide, by decide⟩ [(0, 0), (1, 1)] rfl rfl rfl rfl rfl rfl (Nat.le_of_ble_eq_true rfl) ?_
        rintro _ _ ⟨rfl, rfl⟩
        refine mj_k rfl rfl ?_
        refine mj_blk h.1 b_Wi_sumOf_42 rfl trivial ?_
        refine mj_callS h zGood (ev_Wi_addToSum l D cA _ _) v_Wi_addToSum rfl l_Wi_sumOf_48 d_Wi_sumOf_48 rfl ⟨by decide, by decide⟩ ⟨by decide, by decide⟩ [(0, 0), (1, 1)] rfl rfl rfl rfl (Nat.le_of_ble_eq_true rfl) ?_
        rintro _ _ ⟨rfl, rfl⟩
        refine mj_k rfl rfl ?_
        refine mj_blk h.1 b_Wi_sumOf_51 rfl trivial ?_
        refine mj_lpk [0, 1, 3, 4, 5, 6] rfl ?_
        rw [show nI a + 2 = nI (a + 2) from nI_add a 2]
        exact ih (a + 2) _ (by omega) (by omega) hp2
      · have c2 : a + 1 < b := (nI_ltI (by omega) (by omega)).mp (by rw [nI_succ]; exact Int32.not_le.mp g2)
        have hp2 : post (some (.int (wSum n f t (a + 2) b (wAdd s (wA n f (nI a) <<< ((8 : Int32) &&& 31) ||| wA n f (nI a + 1)))))) (wWi n f) := by
          have hp2 := hp
          unfold wSum at hp2
          rw [if_pos c1, if_pos c2] at hp2
          exact hp2
        refine mj_blk h.1 b_Wi_sumOf_20 rfl trivial ?_
        refine mj_callV h zGood (ev_Wi_at l D cA _ hn _ _) v_Wi_at l_Wi_sumOf_25 d_Wi_sumOf_25 rfl ⟨by decide, by decide⟩ ⟨by decide, by decide⟩ [(0, 0), (1, 1)] rfl rfl rfl rfl rfl rfl (Nat.le_of_ble_eq_true rfl) ?_
        rintro _ _ ⟨rfl, rfl⟩
        refine mj_k rfl rfl ?_
        refine mj_blk h.1 b_Wi_sumOf_28 rfl trivial ?_
        refine mj_blk h.1 b_Wi_sumOf_32 rfl trivial ?_
        refine mj_callV h zGood (ev_Wi_at l D cA _ hn _ _) v_Wi_at l_Wi_sumOf_39 d_Wi_sumOf_39 rfl ⟨by decide, by decide⟩ ⟨by decide, by decide⟩ [(0, 0), (1, 1)] rfl rfl rfl rfl rfl rfl (Nat.le_of_ble_eq_true rfl) ?_
        rintro _ _ ⟨rfl, rfl⟩
        refine mj_k rfl rfl ?_
        refine mj_blk h.1 b_Wi_sumOf_42 rfl trivial ?_
        refine mj_callS h zGood (ev_Wi_addToSum l D cA _ _) v_Wi_addToSum rfl l_Wi_sumOf_48 d_Wi_sumOf_48 rfl ⟨by decide, by decide⟩ ⟨by decide, by decide⟩ [(0, 0), (1, 1)] rfl rfl rfl rfl (Nat.le_of_ble_eq_true rfl) ?_
        rintro _ _ ⟨rfl, rfl⟩
        refine mj_k rfl rfl ?_
        refine mj_blk h.1 b_Wi_sumOf_51 rfl trivial ?_
        refine mj_lpk [0, 1, 3, 4, 5, 6] rfl ?_
        rw [show nI a + 2 = nI (a + 2) from nI_add a 2]
        exact ih (a + 2) _ (by omega) (by omega) hp2
set_option maxRecDepth 100000 in
set_option maxHeartbeats 4000000 in
theorem ev_Wi_sumOf (n : Nat) (hn : n ≤ 100) (f : Nat → Int32) (a b : Nat) (hb : b < 2 ^ 30) (ha : a ≤ b + 1) (s : Int32) : E0_Wi_sumOf l D cA [.ref 0, .int (nI a), .int (nI b), .int s] (wWi n f) (some (.int (wSum n f b a b s))) (wWi n f) := by
  refine mj_ev (lv := [(0, .ref 0), (1, .int (nI a)), (2, .int (nI b)), (3, .int s)]) (by decide +kernel) (Nat.le_of_ble_eq_true rfl) rfl (fun X h => ?_)
  refine mj_blk h.1 b_Wi_sumOf_0 rfl trivial ?_
  exact lp_Wi_sumOf l D cA n hn f b hb _ _ h b a s (by omega) ha ⟨rfl, rfl⟩
def wIs (n : Nat) (f : Nat → Int32) : Int32 := wSum n f (wIpN n f) 0 (wIpN n f) 0
def wTs (n : Nat) (f : Nat → Int32) (L : Nat) : Int32 := wSum n f L (wIpN n f) L (wAdd (wAdd (wSum n f 20 12 20 0) 6) (nI L - nI (wIpN n f)))
def wSet (n : Nat) (f : Nat → Int32) (k x : Int32) : Nat → Int32 := if (0 ≤ k ∧ k < nI n) ∧ (0 ≤ k + 1 ∧ k + 1 < nI n) then upd (upd f k.toNatClampNeg ((x >>> ((8 : Int32) &&& 31)) &&& 255)) (k + 1).toNatClampNeg (x &&& 255) else f
def wF2 (n : Nat) (f : Nat → Int32) : Nat → Int32 := wSet n (wSet n f 10 0) 10 (65535 - wIs n (wSet n f 10 0))
def wF3 (n : Nat) (f : Nat → Int32) : Nat → Int32 := wSet n (wF2 n f) (nI (wIpN n f) + 16) 0
def wMk (n : Nat) (f : Nat → Int32) (L : Nat) : Nat → Int32 := wSet n (wF3 n f) (nI (wIpN n f) + 16) (65535 - wTs n (wF3 n f) L)
def wFault (n : Nat) (f : Nat → Int32) (s : Prop) [Decidable s] : Int32 :=
  if 20 ≤ nI n then
    if wA n f 0 < 69 then 2 else if wA n f 0 ≤ 71 then
      if nI n < wPair n f 2 then 3 else if nI (wIpN n f) + 20 ≤ wPair n f 2 then
        if s ∧ ¬ wIs n f = 65535 then 4 else if wPair n f 6 &&& 16383 = 0 then
          if wA n f 9 = 6 then
            if wTw n f < 5 then 7 else if 8 < wTw n f then 7 else if wDs n f ≤ wPair n f 2 then
              if s ∧ ¬ wTs n f (wPair n f 2).toNatClampNeg = 65535 then 8 else 0
            else 7
          else 6
        else 5
      else 3
    else 2
  else 1
set_option maxRecDepth 100000 in
set_option maxHeartbeats 4000000 in
theorem ev_Wi_ipSum (n : Nat) (hn : n ≤ 100) (f : Nat → Int32) : E0_Wi_ipSum l D cA [.ref 0] (wWi n f) (some (.int (wIs n f))) (wWi n f) := by
  refine mj_ev (lv := [(0, .ref 0)]) (by decide +kernel) (Nat.le_of_ble_eq_true rfl) rfl (fun X h => ?_)
  refine mj_blk h.1 b_Wi_ipSum_0 rfl trivial ?_
  refine mj_callV h zGood (ev_Wi_ipSize l D cA _ hn _) v_Wi_ipSize l_Wi_ipSum_3 d_Wi_ipSum_3 rfl ⟨by decide, by decide⟩ ⟨by decide, by decide⟩ [(0, 0), (1, 1)] rfl rfl rfl rfl rfl rfl (Nat.le_of_ble_eq_true rfl) ?_
  rintro _ _ ⟨rfl, rfl⟩
  refine mj_k rfl rfl ?_
  refine mj_blk h.1 b_Wi_ipSum_6 rfl trivial ?_
  refine mj_callV h zGood (ev_Wi_sumOf l D cA n hn f 0 (wIpN n f) (Nat.lt_of_le_of_lt (wIp_le n f) (by decide)) (Nat.zero_le _) 0) v_Wi_sumOf l_Wi_ipSum_7 d_Wi_ipSum_7 rfl ⟨by decide, by decide⟩ ⟨by decide, by decide⟩ [(0, 0), (1, 1)] rfl rfl rfl rfl rfl rfl (Nat.le_of_ble_eq_true rfl) ?_
  rintro _ _ ⟨rfl, rfl⟩
  refine mj_k rfl rfl ?_
  exact mj_iret h rfl d_Wi_ipSum_10 (by decide) (by decide) ⟨rfl, rfl⟩
set_option maxRecDepth 100000 in
set_option maxHeartbeats 4000000 in
theorem ev_Wi_tcpSum (n : Nat) (hn : n ≤ 100) (f : Nat → Int32) (L : Nat) (hL : wPair n f 2 = nI L) (hL2 : L < 2 ^ 30) (hI : wIpN n f ≤ L + 1) : E0_Wi_tcpSum l D cA [.ref 0] (wWi n f) (some (.int (wTs n f L))) (wWi n f) := by
  refine mj_ev (lv := [(0, .ref 0)]) (by decide +kernel) (Nat.le_of_ble_eq_true rfl) rfl (fun X h => ?_)
  refine mj_blk h.1 b_Wi_tcpSum_0 rfl trivial ?_
  refine mj_callV h zGood (ev_Wi_sumOf l D cA n hn f 12 20 (by decide) (by decide) 0) v_Wi_sumOf l_Wi_tcpSum_6 d_Wi_tcpSum_6 rfl ⟨by decide, by decide⟩ ⟨by decide, by decide⟩ [(0, 0), (1, 1)] rfl rfl rfl rfl rfl rfl (Nat.le_of_ble_eq_true rfl) ?_
  rintro _ _ ⟨rfl, rfl⟩
  refine mj_k rfl rfl ?_
  refine mj_blk h.1 b_Wi_tcpSum_9 rfl trivial ?_
  refine mj_callS h zGood (ev_Wi_addToSum l D cA _ _) v_Wi_addToSum rfl l_Wi_tcpSum_13 d_Wi_tcpSum_13 rfl ⟨by decide, by decide⟩ ⟨by decide, by decide⟩ [(0, 0), (1, 1)] rfl rfl rfl rfl (Nat.le_of_ble_eq_true rfl) ?_
  rintro _ _ ⟨rfl, rfl⟩
  refine mj_k rfl rfl ?_
  refine mj_blk h.1 b_Wi_tcpSum_16 rfl trivial ?_
  refine mj_callV h zGood (ev_Wi_length l D cA _ hn _) v_Wi_length l_Wi_tcpSum_19 d_Wi_tcpSum_19 rfl ⟨by decide, by decide⟩ ⟨by decide, by decide⟩ [(0, 0), (1, 1)] rfl rfl rfl rfl rfl rfl (Nat.le_of_ble_eq_true rfl) ?_
  rintro _ _ ⟨rfl, rfl⟩
  rw [hL]
  refine mj_k rfl rfl ?_
  refine mj_blk h.1 b_Wi_tcpSum_22 rfl trivial ?_
  refine mj_callV h zGood (ev_Wi_ipSize l D cA _ hn _) v_Wi_ipSize l_Wi_tcpSum_23 d_Wi_tcpSum_23 rfl ⟨by decide, by decide⟩ ⟨by decide, by decide⟩ [(0, 0), (1, 1)] rfl rfl rfl rfl rfl rfl (Nat.le_of_ble_eq_true rfl) ?_
  rintro _ _ ⟨rfl, rfl⟩
  refine mj_k rfl rfl ?_
  refine mj_blk h.1 b_Wi_tcpSum_26 rfl trivial ?_
  refine mj_callS h zGood (ev_Wi_addToSum l D cA _ _) v_Wi_addToSum rfl l_Wi_tcpSum_27 d_Wi_tcpSum_27 rfl ⟨by decide, by decide⟩ ⟨by decide, by decide⟩ [(0, 0), (1, 1)] rfl rfl rfl rfl (Nat.le_of_ble_eq_true rfl) ?_
  rintro _ _ ⟨rfl, rfl⟩
  refine mj_k rfl rfl ?_
  refine mj_blk h.1 b_Wi_tcpSum_30 rfl trivial ?_
  refine mj_callV h zGood (ev_Wi_ipSize l D cA _ hn _) v_Wi_ipSize l_Wi_tcpSum_33 d_Wi_tcpSum_33 rfl ⟨by decide, by decide⟩ ⟨by decide, by decide⟩ [(0, 0), (1, 1)] rfl rfl rfl rfl rfl rfl (Nat.le_of_ble_eq_true rfl) ?_
  rintro _ _ ⟨rfl, rfl⟩
  refine mj_k rfl rfl ?_
  refine mj_blk h.1 b_Wi_tcpSum_36 rfl trivial ?_
  refine mj_callV h zGood (ev_Wi_length l D cA _ hn _) v_Wi_length l_Wi_tcpSum_37 d_Wi_tcpSum_37 rfl ⟨by decide, by decide⟩ ⟨by decide, by decide⟩ [(0, 0), (1, 1)] rfl rfl rfl rfl rfl rfl (Nat.le_of_ble_eq_true rfl) ?_
  rintro _ _ ⟨rfl, rfl⟩
  rw [hL]
  refine mj_k rfl rfl ?_
  refine mj_blk h.1 b_Wi_tcpSum_40 rfl trivial ?_
  refine mj_callV h zGood (ev_Wi_sumOf l D cA n hn f (wIpN n f) L hL2 hI _) v_Wi_sumOf l_Wi_tcpSum_41 d_Wi_tcpSum_41 rfl ⟨by decide, by decide⟩ ⟨by decide, by decide⟩ [(0, 0), (1, 1)] rfl rfl rfl rfl rfl rfl (Nat.le_of_ble_eq_true rfl) ?_
  rintro _ _ ⟨rfl, rfl⟩
  refine mj_k rfl rfl ?_
  exact mj_iret h rfl d_Wi_tcpSum_44 (by decide) (by decide) ⟨rfl, rfl⟩
set_option maxRecDepth 100000 in
set_option maxHeartbeats 4000000 in
theorem ev_Wi_setPair (n : Nat) (hn : n ≤ 100) (f : Nat → Int32) (k x : Int32) : E0_Wi_setPair l D cA [.ref 0, .int k, .int x] (wWi n f) none (wWi n (wSet n f k x)) := by
  refine mj_ev (lv := [(0, .ref 0), (1, .int k), (2, .int x)]) (by decide +kernel) (Nat.le_of_ble_eq_true rfl) rfl (fun X h => ?_)
  refine mj_blk h.1 b_Wi_setPair_0 rfl trivial ?_
  refine mj_callV h zGood (ev_Wi_has l D cA _ _ _) v_Wi_has l_Wi_setPair_2 d_Wi_setPair_2 rfl ⟨by decide, by decide⟩ ⟨by decide, by decide⟩ [(0, 0), (1, 1)] rfl rfl rfl rfl rfl rfl (Nat.le_of_ble_eq_true rfl) ?_
  rintro _ _ ⟨rfl, rfl⟩
  refine mj_k rfl rfl ?_
  first | refine mj_ifeqB h.1 (tgt := 45) d_Wi_setPair_5 (by decide) (fun h1 => ?_) (fun h1 => ?_) | refine mj_ifeq h.1 (tgt := 45) d_Wi_setPair_5 (by decide) (fun h1 => ?_) (fun h1 => ?_)
  · exact mj_vret h rfl d_Wi_setPair_45 (by decide) (by decide) ⟨rfl, by unfold wSet; rw [if_neg (fun h9 => h1 h9.1)]⟩
  · refine mj_blk h.1 b_Wi_setPair_8 rfl trivial ?_
    refine mj_callV h zGood (ev_Wi_has l D cA _ _ _) v_Wi_has l_Wi_setPair_12 d_Wi_setPair_12 rfl ⟨by decide, by decide⟩ ⟨by decide, by decide⟩ [(0, 0), (1, 1)] rfl rfl rfl rfl rfl rfl (Nat.le_of_ble_eq_true rfl) ?_
    rintro _ _ ⟨rfl, rfl⟩
    refine mj_k rfl rfl ?_
    first | refine mj_ifeqB h.1 (tgt := 45) d_Wi_setPair_15 (by decide) (fun h2 => ?_) (fun h2 => ?_) | refine mj_ifeq h.1 (tgt := 45) d_Wi_setPair_15 (by decide) (fun h2 => ?_) (fun h2 => ?_)
    · exact mj_vret h rfl d_Wi_setPair_45 (by decide) (by decide) ⟨rfl, by unfold wSet; first | (rw [if_pos ⟨h1, h2⟩]; done) | (rw [if_neg (fun h9 => h1 h9.1)]; done) | (rw [if_neg (fun h9 => h2 h9.2)]; done)⟩
    · refine mj_blk h.1 b_Wi_setPair_18 rfl ⟨vp_in_of2 h2 hn (by decide), vp_in_of2 h1 hn (by decide), trivial⟩ ?_
      exact mj_vret h rfl d_Wi_setPair_45 (by decide) (by decide) ⟨rfl, by unfold wSet; first | (rw [if_pos ⟨h1, h2⟩]; done) | (rw [if_neg (fun h9 => h1 h9.1)]; done) | (rw [if_neg (fun h9 => h2 h9.2)]; done)⟩
set_option maxRecDepth 100000 in
set_option maxHeartbeats 4000000 in
theorem ev_Wi_makeSumsRight0 (n : Nat) (hn : n ≤ 100) (f f1 f2 f3 f4 : Nat → Int32) (L : Nat) (e1 : f1 = wSet n f 10 0) (e2 : f2 = wSet n f1 10 (65535 - wIs n f1)) (e3 : f3 = wSet n f2 (nI (wIpN n f) + 16) 0) (e4 : f4 = wSet n f3 (nI (wIpN n f) + 16) (65535 - wTs n f3 L)) (hL : wPair n f3 2 = nI L) (hL2 : L < 2 ^ 30) (hI : wIpN n f3 ≤ L + 1) : E0_Wi_makeSumsRight l D cA [.ref 0] (wWi n f) none (wWi n f4) := by
  refine mj_ev (lv := [(0, .ref 0)]) (by decide +kernel) (Nat.le_of_ble_eq_true rfl) rfl (fun X h => ?_)
  refine mj_blk h.1 b_Wi_makeSumsRight_0 rfl trivial ?_
  refine mj_callV h zGood (ev_Wi_ipSize l D cA _ hn _) v_Wi_ipSize l_Wi_makeSumsRight_1 d_Wi_makeSumsRight_1 rfl ⟨by decide, by decide⟩ ⟨by decide, by decide⟩ [(0, 0), (1, 1)] rfl rfl rfl rfl rfl rfl (Nat.le_of_ble_eq_true rfl) ?_
  rintro _ _ ⟨rfl, rfl⟩
  refine mj_k rfl rfl ?_
  refine mj_blk h.1 b_Wi_makeSumsRight_4 rfl trivial ?_
  refine mj_callV h zGood (ev_Wi_setPair l D cA n hn f 10 0) v_Wi_setPair l_Wi_makeSumsRight_12 d_Wi_makeSumsRight_12 rfl ⟨by decide, by decide⟩ ⟨by decide, by decide⟩ [(0, 0), (1, 1)] rfl rfl rfl rfl rfl rfl (Nat.le_of_ble_eq_true rfl) ?_
  rintro _ _ ⟨rfl, rfl⟩
  rw [← e1]
  refine mj_k rfl rfl ?_
  refine mj_blk h.1 b_Wi_makeSumsRight_15 rfl trivial ?_
  refine mj_callV h zGood (ev_Wi_ipSum l D cA n hn f1) v_Wi_ipSum l_Wi_makeSumsRight_21 d_Wi_makeSumsRight_21 rfl ⟨by decide, by decide⟩ ⟨by decide, by decide⟩ [(0, 0), (1, 1)] rfl rfl rfl rfl rfl rfl (Nat.le_of_ble_eq_true rfl) ?_
  rintro _ _ ⟨rfl, rfl⟩
  refine mj_k rfl rfl ?_
  refine mj_blk h.1 b_Wi_makeSumsRight_24 rfl trivial ?_
  refine mj_callV h zGood (ev_Wi_setPair l D cA n hn f1 10 _) v_Wi_setPair l_Wi_makeSumsRight_25 d_Wi_makeSumsRight_25 rfl ⟨by decide, by decide⟩ ⟨by decide, by decide⟩ [(0, 0), (1, 1)] rfl rfl rfl rfl rfl rfl (Nat.le_of_ble_eq_true rfl) ?_
  rintro _ _ ⟨rfl, rfl⟩
  rw [← e2]
  refine mj_k rfl rfl ?_
  refine mj_blk h.1 b_Wi_makeSumsRight_28 rfl trivial ?_
  refine mj_callV h zGood (ev_Wi_setPair l D cA n hn f2 _ 0) v_Wi_setPair l_Wi_makeSumsRight_31 d_Wi_makeSumsRight_31 rfl ⟨by decide, by decide⟩ ⟨by decide, by decide⟩ [(0, 0), (1, 1)] rfl rfl rfl rfl rfl rfl (Nat.le_of_ble_eq_true rfl) ?_
  rintro _ _ ⟨rfl, rfl⟩
  rw [← e3]
  refine mj_k rfl rfl ?_
  refine mj_blk h.1 b_Wi_makeSumsRight_34 rfl trivial ?_
  refine mj_callV h zGood (ev_Wi_tcpSum l D cA n hn f3 L hL hL2 hI) v_Wi_tcpSum l_Wi_makeSumsRight_39 d_Wi_makeSumsRight_39 rfl ⟨by decide, by decide⟩ ⟨by decide, by decide⟩ [(0, 0), (1, 1)] rfl rfl rfl rfl rfl rfl (Nat.le_of_ble_eq_true rfl) ?_
  rintro _ _ ⟨rfl, rfl⟩
  refine mj_k rfl rfl ?_
  refine mj_blk h.1 b_Wi_makeSumsRight_42 rfl trivial ?_
  refine mj_callV h zGood (ev_Wi_setPair l D cA n hn f3 _ _) v_Wi_setPair l_Wi_makeSumsRight_43 d_Wi_makeSumsRight_43 rfl ⟨by decide, by decide⟩ ⟨by decide, by decide⟩ [(0, 0), (1, 1)] rfl rfl rfl rfl rfl rfl (Nat.le_of_ble_eq_true rfl) ?_
  rintro _ _ ⟨rfl, rfl⟩
  rw [← e4]
  refine mj_k rfl rfl ?_
  exact mj_vret h rfl d_Wi_makeSumsRight_46 (by decide) (by decide) ⟨rfl, rfl⟩
theorem ev_Wi_makeSumsRight (n : Nat) (hn : n ≤ 100) (f : Nat → Int32) (L : Nat) (hL : wPair n (wF3 n f) 2 = nI L) (hL2 : L < 2 ^ 30) (hI : wIpN n (wF3 n f) ≤ L + 1) : E0_Wi_makeSumsRight l D cA [.ref 0] (wWi n f) none (wWi n (wMk n f L)) := ev_Wi_makeSumsRight0 l D cA n hn f (wSet n f 10 0) (wF2 n f) (wF3 n f) (wMk n f L) L rfl rfl rfl rfl hL hL2 hI
set_option maxRecDepth 100000 in
set_option maxHeartbeats 4000000 in
theorem ev_Wi_fault (n : Nat) (hn : n ≤ 100) (f : Nat → Int32) (s : Prop) [Decidable s] : E0_Wi_fault l D cA [.ref 0, .int (if s then 1 else 0)] (wWi n f) (some (.int (wFault n f s))) (wWi n f) := by
  refine mj_ev (lv := [(0, .ref 0), (1, .int (if s then 1 else 0))]) (by decide +kernel) (Nat.le_of_ble_eq_true rfl) rfl (fun X h => ?_)
  refine mj_blk h.1 b_Wi_fault_0 rfl trivial ?_
  refine mj_icge h.1 (tgt := 11) d_Wi_fault_6 (by decide) (fun h1 => ?_) (fun h1 => ?_)
  · refine mj_blk h.1 b_Wi_fault_11 rfl trivial ?_
    refine mj_callV h zGood (ev_Wi_at l D cA _ hn _ _) v_Wi_at l_Wi_fault_13 d_Wi_fault_13 rfl ⟨by decide, by decide⟩ ⟨by decide, by decide⟩ [(0, 0), (1, 1)] rfl rfl rfl rfl rfl rfl (Nat.le_of_ble_eq_true rfl) ?_
    rintro _ _ ⟨rfl, rfl⟩
    refine mj_k rfl rfl ?_
    refine mj_blk h.1 b_Wi_fault_16 rfl trivial ?_
    refine mj_iclt h.1 (tgt := 31) d_Wi_fault_18 (by decide) (fun h2 => ?_) (fun h2 => ?_)
    · refine mj_blk h.1 b_Wi_fault_31 rfl trivial ?_
      exact mj_iret h rfl d_Wi_fault_32 (by decide) (by decide) ⟨by unfold wFault; rw [if_pos h1, if_pos h2], rfl⟩
    · refine mj_blk h.1 b_Wi_fault_21 rfl trivial ?_
      refine mj_callV h zGood (ev_Wi_at l D cA _ hn _ _) v_Wi_at l_Wi_fault_23 d_Wi_fault_23 rfl ⟨by decide, by decide⟩ ⟨by decide, by decide⟩ [(0, 0), (1, 1)] rfl rfl rfl rfl rfl rfl (Nat.le_of_ble_eq_true rfl) ?_
      rintro _ _ ⟨rfl, rfl⟩
      refine mj_k rfl rfl ?_
      refine mj_blk h.1 b_Wi_fault_26 rfl trivial ?_
      refine mj_icle h.1 (tgt := 33) d_Wi_fault_28 (by decide) (fun h3 => ?_) (fun h3 => ?_)
      · refine mj_blk h.1 b_Wi_fault_33 rfl trivial ?_
        refine mj_callV h zGood (ev_Wi_length l D cA _ hn _) v_Wi_length l_Wi_fault_34 d_Wi_fault_34 rfl ⟨by decide, by decide⟩ ⟨by decide, by decide⟩ [(0, 0), (1, 1)] rfl rfl rfl rfl rfl rfl (Nat.le_of_ble_eq_true rfl) ?_
        rintro _ _ ⟨rfl, rfl⟩
        refine mj_k rfl rfl ?_
        refine mj_blk h.1 b_Wi_fault_37 rfl trivial ?_
        refine mj_icgt h.1 (tgt := 58) d_Wi_fault_41 (by decide) (fun h4 => ?_) (fun h4 => ?_)
        · refine mj_blk h.1 b_Wi_fault_58 rfl trivial ?_
          exact mj_iret h rfl d_Wi_fault_59 (by decide) (by decide) ⟨by unfold wFault; rw [if_pos h1, if_neg h2, if_pos h3, if_pos h4], rfl⟩
        · refine mj_blk h.1 b_Wi_fault_44 rfl trivial ?_
          refine mj_callV h zGood (ev_Wi_length l D cA _ hn _) v_Wi_length l_Wi_fault_45 d_Wi_fault_45 rfl ⟨by decide, by decide⟩ ⟨by decide, by decide⟩ [(0, 0), (1, 1)] rfl rfl rfl rfl rfl rfl (Nat.le_of_ble_eq_true rfl) ?_
          rintro _ _ ⟨rfl, rfl⟩
          refine mj_k rfl rfl ?_
          refine mj_blk h.1 b_Wi_fault_48 rfl trivial ?_
          refine mj_callV h zGood (ev_Wi_ipSize l D cA _ hn _) v_Wi_ipSize l_Wi_fault_49 d_Wi_fault_49 rfl ⟨by decide, by decide⟩ ⟨by decide, by decide⟩ [(0, 0), (1, 1)] rfl rfl rfl rfl rfl rfl (Nat.le_of_ble_eq_true rfl) ?_
          rintro _ _ ⟨rfl, rfl⟩
          refine mj_k rfl rfl ?_
          refine mj_blk h.1 b_Wi_fault_52 rfl trivial ?_
          refine mj_icge h.1 (tgt := 60) d_Wi_fault_55 (by decide) (fun h5 => ?_) (fun h5 => ?_)
          · refine mj_blk h.1 b_Wi_fault_60 rfl trivial ?_
            first | refine mj_ifeqB h.1 (tgt := 75) d_Wi_fault_61 (by decide) (fun h6 => ?_) (fun h6 => ?_) | refine mj_ifeq h.1 (tgt := 75) d_Wi_fault_61 (by decide) (fun h6 => ?_) (fun h6 => ?_)
            · refine mj_blk h.1 b_Wi_fault_75 rfl trivial ?_
              refine mj_callV h zGood (ev_Wi_pairAt l D cA _ hn _ _) v_Wi_pairAt l_Wi_fault_78 d_Wi_fault_78 rfl ⟨by decide, by decide⟩ ⟨by decide, by decide⟩ [(0, 0), (1, 1)] rfl rfl rfl rfl rfl rfl (Nat.le_of_ble_eq_true rfl) ?_
              rintro _ _ ⟨rfl, rfl⟩
              refine mj_k rfl rfl ?_
              refine mj_blk h.1 b_Wi_fault_81 rfl trivial ?_
              first | refine mj_ifeqB h.1 (tgt := 90) d_Wi_fault_85 (by decide) (fun h7 => ?_) (fun h7 => ?_) | refine mj_ifeq h.1 (tgt := 90) d_Wi_fault_85 (by decide) (fun h7 => ?_) (fun h7 => ?_)
              · refine mj_blk h.1 b_Wi_fault_90 rfl trivial ?_
                refine mj_callV h zGood (ev_Wi_at l D cA _ hn _ _) v_Wi_at l_Wi_fault_93 d_Wi_fault_93 rfl ⟨by decide, by decide⟩ ⟨by decide, by decide⟩ [(0, 0), (1, 1)] rfl rfl rfl rfl rfl rfl (Nat.le_of_ble_eq_true rfl) ?_
                rintro _ _ ⟨rfl, rfl⟩
                refine mj_k rfl rfl ?_
                refine mj_blk h.1 b_Wi_fault_96 rfl trivial ?_
                refine mj_iceq h.1 (tgt := 104) d_Wi_fault_98 (by decide) (fun h8 => ?_) (fun h8 => ?_)
                · refine mj_blk h.1 b_Wi_fault_104 rfl trivial ?_
                  refine mj_callV h zGood (ev_Wi_tcpWords l D cA _ hn _) v_Wi_tcpWords l_Wi_fault_105 d_Wi_fault_105 rfl ⟨by decide, by decide⟩ ⟨by decide, by decide⟩ [(0, 0), (1, 1)] rfl rfl rfl rfl rfl rfl (Nat.le_of_ble_eq_true rfl) ?_
                  rintro _ _ ⟨rfl, rfl⟩
                  refine mj_k rfl rfl ?_
                  refine mj_blk h.1 b_Wi_fault_108 rfl trivial ?_
                  refine mj_iclt h.1 (tgt := 132) d_Wi_fault_109 (by decide) (fun h9 => ?_) (fun h9 => ?_)
                  · refine mj_blk h.1 b_Wi_fault_132 rfl trivial ?_
                    exact mj_iret h rfl d_Wi_fault_134 (by decide) (by decide) ⟨by unfold wFault; rw [if_pos h1, if_neg h2, if_pos h3, if_neg h4, if_pos h5, if_neg (fun h9 => h6 h9.1), if_pos h7, if_pos h8, if_pos h9], rfl⟩
                  · refine mj_blk h.1 b_Wi_fault_112 rfl trivial ?_
                    refine mj_callV h zGood (ev_Wi_tcpWords l D cA _ hn _) v_Wi_tcpWords l_Wi_fault_113 d_Wi_fault_113 rfl ⟨by decide, by decide⟩ ⟨by decide, by decide⟩ [(0, 0), (1, 1)] rfl rfl rfl rfl rfl rfl (Nat.le_of_ble_eq_true rfl) ?_
                    rintro _ _ ⟨rfl, rfl⟩
                    refine mj_k rfl rfl ?_
                    refine mj_blk h.1 b_Wi_fault_116 rfl trivial ?_
                    refine mj_icgt h.1 (tgt := 132) d_Wi_fault_118 (by decide) (fun h10 => ?_) (fun h10 => ?_)
                    · refine mj_blk h.1 b_Wi_fault_132 rfl trivial ?_
                      exact mj_iret h rfl d_Wi_fault_134 (by decide) (by decide) ⟨by unfold wFault; rw [if_pos h1, if_neg h2, if_pos h3, if_neg h4, if_pos h5, if_neg (fun h9 => h6 h9.1), if_pos h7, if_pos h8, if_neg h9, if_pos h10], rfl⟩
                    · refine mj_blk h.1 b_Wi_fault_121 rfl trivial ?_
                      refine mj_callV h zGood (ev_Wi_dataStart l D cA _ hn _) v_Wi_dataStart l_Wi_fault_122 d_Wi_fault_122 rfl ⟨by decide, by decide⟩ ⟨by decide, by decide⟩ [(0, 0), (1, 1)] rfl rfl rfl rfl rfl rfl (Nat.le_of_ble_eq_true rfl) ?_
                      rintro _ _ ⟨rfl, rfl⟩
                      refine mj_k rfl rfl ?_
                      refine mj_blk h.1 b_Wi_fault_125 rfl trivial ?_
                      refine mj_callV h zGood (ev_Wi_length l D cA _ hn _) v_Wi_length l_Wi_fault_126 d_Wi_fault_126 rfl ⟨by decide, by decide⟩ ⟨by decide, by decide⟩ [(0, 0), (1, 1)] rfl rfl rfl rfl rfl rfl (Nat.le_of_ble_eq_true rfl) ?_
                      rintro _ _ ⟨rfl, rfl⟩
                      refine mj_k rfl rfl ?_
                      refine mj_icle h.1 (tgt := 135) d_Wi_fault_129 (by decide) (fun h11 => ?_) (fun h11 => ?_)
                      · refine mj_blk h.1 b_Wi_fault_135 rfl trivial ?_
                        first | refine mj_ifeqB h.1 (tgt := 151) d_Wi_fault_136 (by decide) (fun h12 => ?_) (fun h12 => ?_) | refine mj_ifeq h.1 (tgt := 151) d_Wi_fault_136 (by decide) (fun h12 => ?_) (fun h12 => ?_)
                        · refine mj_blk h.1 b_Wi_fault_151 rfl trivial ?_
                          exact mj_iret h rfl d_Wi_fault_152 (by decide) (by decide) ⟨by unfold wFault; rw [if_pos h1, if_neg h2, if_pos h3, if_neg h4, if_pos h5, if_neg (fun h9 => h6 h9.1), if_pos h7, if_pos h8, if_neg h9, if_neg h10, if_pos h11, if_neg (fun h9 => h12 h9.1)], rfl⟩
                        · refine mj_blk h.1 b_Wi_fault_139 rfl trivial ?_
                          refine mj_callV h zGood (ev_Wi_tcpSum l D cA n hn f _ (wLenA hn (wIp_le n f) h4 h5).1 (by have := wLenA hn (wIp_le n f) h4 h5; omega) (by have := wLenA hn (wIp_le n f) h4 h5; omega)) v_Wi_tcpSum l_Wi_fault_140 d_Wi_fault_140 rfl ⟨by decide, by decide⟩ ⟨by decide, by decide⟩ [(0, 0), (1, 1)] rfl rfl rfl rfl rfl rfl (Nat.le_of_ble_eq_true rfl) ?_
                          rintro _ _ ⟨rfl, rfl⟩
                          refine mj_k rfl rfl ?_
                          refine mj_blk h.1 b_Wi_fault_143 rfl trivial ?_
                          refine mj_iceq h.1 (tgt := 151) d_Wi_fault_145 (by decide) (fun h13 => ?_) (fun h13 => ?_)
                          · refine mj_blk h.1 b_Wi_fault_151 rfl trivial ?_
                            exact mj_iret h rfl d_Wi_fault_152 (by decide) (by decide) (absurd h12 h6)
                          · refine mj_blk h.1 b_Wi_fault_148 rfl trivial ?_
                            exact mj_iret h rfl d_Wi_fault_150 (by decide) (by decide) (absurd h12 h6)
                      · refine mj_blk h.1 b_Wi_fault_132 rfl trivial ?_
                        exact mj_iret h rfl d_Wi_fault_134 (by decide) (by decide) ⟨by unfold wFault; rw [if_pos h1, if_neg h2, if_pos h3, if_neg h4, if_pos h5, if_neg (fun h9 => h6 h9.1), if_pos h7, if_pos h8, if_neg h9, if_neg h10, if_neg h11], rfl⟩
                · refine mj_blk h.1 b_Wi_fault_101 rfl trivial ?_
                  exact mj_iret h rfl d_Wi_fault_103 (by decide) (by decide) ⟨by unfold wFault; rw [if_pos h1, if_neg h2, if_pos h3, if_neg h4, if_pos h5, if_neg (fun h9 => h6 h9.1), if_pos h7, if_neg h8], rfl⟩
              · refine mj_blk h.1 b_Wi_fault_88 rfl trivial ?_
                exact mj_iret h rfl d_Wi_fault_89 (by decide) (by decide) ⟨by unfold wFault; rw [if_pos h1, if_neg h2, if_pos h3, if_neg h4, if_pos h5, if_neg (fun h9 => h6 h9.1), if_neg h7], rfl⟩
            · refine mj_blk h.1 b_Wi_fault_64 rfl trivial ?_
              refine mj_callV h zGood (ev_Wi_ipSum l D cA n hn _) v_Wi_ipSum l_Wi_fault_65 d_Wi_fault_65 rfl ⟨by decide, by decide⟩ ⟨by decide, by decide⟩ [(0, 0), (1, 1)] rfl rfl rfl rfl rfl rfl (Nat.le_of_ble_eq_true rfl) ?_
              rintro _ _ ⟨rfl, rfl⟩
              refine mj_k rfl rfl ?_
              refine mj_blk h.1 b_Wi_fault_68 rfl trivial ?_
              refine mj_iceq h.1 (tgt := 75) d_Wi_fault_70 (by decide) (fun h14 => ?_) (fun h14 => ?_)
              · refine mj_blk h.1 b_Wi_fault_75 rfl trivial ?_
                refine mj_callV h zGood (ev_Wi_pairAt l D cA _ hn _ _) v_Wi_pairAt l_Wi_fault_78 d_Wi_fault_78 rfl ⟨by decide, by decide⟩ ⟨by decide, by decide⟩ [(0, 0), (1, 1)] rfl rfl rfl rfl rfl rfl (Nat.le_of_ble_eq_true rfl) ?_
                rintro _ _ ⟨rfl, rfl⟩
                refine mj_k rfl rfl ?_
                refine mj_blk h.1 b_Wi_fault_81 rfl trivial ?_
                first | refine mj_ifeqB h.1 (tgt := 90) d_Wi_fault_85 (by decide) (fun h15 => ?_) (fun h15 => ?_) | refine mj_ifeq h.1 (tgt := 90) d_Wi_fault_85 (by decide) (fun h15 => ?_) (fun h15 => ?_)
                · refine mj_blk h.1 b_Wi_fault_90 rfl trivial ?_
                  refine mj_callV h zGood (ev_Wi_at l D cA _ hn _ _) v_Wi_at l_Wi_fault_93 d_Wi_fault_93 rfl ⟨by decide, by decide⟩ ⟨by decide, by decide⟩ [(0, 0), (1, 1)] rfl rfl rfl rfl rfl rfl (Nat.le_of_ble_eq_true rfl) ?_
                  rintro _ _ ⟨rfl, rfl⟩
                  refine mj_k rfl rfl ?_
                  refine mj_blk h.1 b_Wi_fault_96 rfl trivial ?_
                  refine mj_iceq h.1 (tgt := 104) d_Wi_fault_98 (by decide) (fun h16 => ?_) (fun h16 => ?_)
                  · refine mj_blk h.1 b_Wi_fault_104 rfl trivial ?_
                    refine mj_callV h zGood (ev_Wi_tcpWords l D cA _ hn _) v_Wi_tcpWords l_Wi_fault_105 d_Wi_fault_105 rfl ⟨by decide, by decide⟩ ⟨by decide, by decide⟩ [(0, 0), (1, 1)] rfl rfl rfl rfl rfl rfl (Nat.le_of_ble_eq_true rfl) ?_
                    rintro _ _ ⟨rfl, rfl⟩
                    refine mj_k rfl rfl ?_
                    refine mj_blk h.1 b_Wi_fault_108 rfl trivial ?_
                    refine mj_iclt h.1 (tgt := 132) d_Wi_fault_109 (by decide) (fun h17 => ?_) (fun h17 => ?_)
                    · refine mj_blk h.1 b_Wi_fault_132 rfl trivial ?_
                      exact mj_iret h rfl d_Wi_fault_134 (by decide) (by decide) ⟨by unfold wFault; rw [if_pos h1, if_neg h2, if_pos h3, if_neg h4, if_pos h5, if_neg (fun h9 => h9.2 h14), if_pos h15, if_pos h16, if_pos h17], rfl⟩
                    · refine mj_blk h.1 b_Wi_fault_112 rfl trivial ?_
                      refine mj_callV h zGood (ev_Wi_tcpWords l D cA _ hn _) v_Wi_tcpWords l_Wi_fault_113 d_Wi_fault_113 rfl ⟨by decide, by decide⟩ ⟨by decide, by decide⟩ [(0, 0), (1, 1)] rfl rfl rfl rfl rfl rfl (Nat.le_of_ble_eq_true rfl) ?_
                      rintro _ _ ⟨rfl, rfl⟩
                      refine mj_k rfl rfl ?_
                      refine mj_blk h.1 b_Wi_fault_116 rfl trivial ?_
                      refine mj_icgt h.1 (tgt := 132) d_Wi_fault_118 (by decide) (fun h18 => ?_) (fun h18 => ?_)
                      · refine mj_blk h.1 b_Wi_fault_132 rfl trivial ?_
                        exact mj_iret h rfl d_Wi_fault_134 (by decide) (by decide) ⟨by unfold wFault; rw [if_pos h1, if_neg h2, if_pos h3, if_neg h4, if_pos h5, if_neg (fun h9 => h9.2 h14), if_pos h15, if_pos h16, if_neg h17, if_pos h18], rfl⟩
                      · refine mj_blk h.1 b_Wi_fault_121 rfl trivial ?_
                        refine mj_callV h zGood (ev_Wi_dataStart l D cA _ hn _) v_Wi_dataStart l_Wi_fault_122 d_Wi_fault_122 rfl ⟨by decide, by decide⟩ ⟨by decide, by decide⟩ [(0, 0), (1, 1)] rfl rfl rfl rfl rfl rfl (Nat.le_of_ble_eq_true rfl) ?_
                        rintro _ _ ⟨rfl, rfl⟩
                        refine mj_k rfl rfl ?_
                        refine mj_blk h.1 b_Wi_fault_125 rfl trivial ?_
                        refine mj_callV h zGood (ev_Wi_length l D cA _ hn _) v_Wi_length l_Wi_fault_126 d_Wi_fault_126 rfl ⟨by decide, by decide⟩ ⟨by decide, by decide⟩ [(0, 0), (1, 1)] rfl rfl rfl rfl rfl rfl (Nat.le_of_ble_eq_true rfl) ?_
                        rintro _ _ ⟨rfl, rfl⟩
                        refine mj_k rfl rfl ?_
                        refine mj_icle h.1 (tgt := 135) d_Wi_fault_129 (by decide) (fun h19 => ?_) (fun h19 => ?_)
                        · refine mj_blk h.1 b_Wi_fault_135 rfl trivial ?_
                          first | refine mj_ifeqB h.1 (tgt := 151) d_Wi_fault_136 (by decide) (fun h20 => ?_) (fun h20 => ?_) | refine mj_ifeq h.1 (tgt := 151) d_Wi_fault_136 (by decide) (fun h20 => ?_) (fun h20 => ?_)
                          · refine mj_blk h.1 b_Wi_fault_151 rfl trivial ?_
                            exact mj_iret h rfl d_Wi_fault_152 (by decide) (by decide) (absurd h6 h20)
                          · refine mj_blk h.1 b_Wi_fault_139 rfl trivial ?_
                            refine mj_callV h zGood (ev_Wi_tcpSum l D cA n hn f _ (wLenA hn (wIp_le n f) h4 h5).1 (by have := wLenA hn (wIp_le n f) h4 h5; omega) (by have := wLenA hn (wIp_le n f) h4 h5; omega)) v_Wi_tcpSum l_Wi_fault_140 d_Wi_fault_140 rfl ⟨by decide, by decide⟩ ⟨by decide, by decide⟩ [(0, 0), (1, 1)] rfl rfl rfl rfl rfl rfl (Nat.le_of_ble_eq_true rfl) ?_
                            rintro _ _ ⟨rfl, rfl⟩
                            refine mj_k rfl rfl ?_
                            refine mj_blk h.1 b_Wi_fault_143 rfl trivial ?_
                            refine mj_iceq h.1 (tgt := 151) d_Wi_fault_145 (by decide) (fun h21 => ?_) (fun h21 => ?_)
                            · refine mj_blk h.1 b_Wi_fault_151 rfl trivial ?_
                              exact mj_iret h rfl d_Wi_fault_152 (by decide) (by decide) ⟨by unfold wFault; rw [if_pos h1, if_neg h2, if_pos h3, if_neg h4, if_pos h5, if_neg (fun h9 => h9.2 h14), if_pos h15, if_pos h16, if_neg h17, if_neg h18, if_pos h19, if_neg (fun h9 => h9.2 h21)], rfl⟩
                            · refine mj_blk h.1 b_Wi_fault_148 rfl trivial ?_
                              exact mj_iret h rfl d_Wi_fault_150 (by decide) (by decide) ⟨by unfold wFault; rw [if_pos h1, if_neg h2, if_pos h3, if_neg h4, if_pos h5, if_neg (fun h9 => h9.2 h14), if_pos h15, if_pos h16, if_neg h17, if_neg h18, if_pos h19, if_pos ⟨h20, h21⟩], rfl⟩
                        · refine mj_blk h.1 b_Wi_fault_132 rfl trivial ?_
                          exact mj_iret h rfl d_Wi_fault_134 (by decide) (by decide) ⟨by unfold wFault; rw [if_pos h1, if_neg h2, if_pos h3, if_neg h4, if_pos h5, if_neg (fun h9 => h9.2 h14), if_pos h15, if_pos h16, if_neg h17, if_neg h18, if_neg h19], rfl⟩
                  · refine mj_blk h.1 b_Wi_fault_101 rfl trivial ?_
                    exact mj_iret h rfl d_Wi_fault_103 (by decide) (by decide) ⟨by unfold wFault; rw [if_pos h1, if_neg h2, if_pos h3, if_neg h4, if_pos h5, if_neg (fun h9 => h9.2 h14), if_pos h15, if_neg h16], rfl⟩
                · refine mj_blk h.1 b_Wi_fault_88 rfl trivial ?_
                  exact mj_iret h rfl d_Wi_fault_89 (by decide) (by decide) ⟨by unfold wFault; rw [if_pos h1, if_neg h2, if_pos h3, if_neg h4, if_pos h5, if_neg (fun h9 => h9.2 h14), if_neg h15], rfl⟩
              · refine mj_blk h.1 b_Wi_fault_73 rfl trivial ?_
                exact mj_iret h rfl d_Wi_fault_74 (by decide) (by decide) ⟨by unfold wFault; rw [if_pos h1, if_neg h2, if_pos h3, if_neg h4, if_pos h5, if_pos ⟨h6, h14⟩], rfl⟩
          · refine mj_blk h.1 b_Wi_fault_58 rfl trivial ?_
            exact mj_iret h rfl d_Wi_fault_59 (by decide) (by decide) ⟨by unfold wFault; rw [if_pos h1, if_neg h2, if_pos h3, if_neg h4, if_neg h5], rfl⟩
      · refine mj_blk h.1 b_Wi_fault_31 rfl trivial ?_
        exact mj_iret h rfl d_Wi_fault_32 (by decide) (by decide) ⟨by unfold wFault; rw [if_pos h1, if_neg h2, if_neg h3], rfl⟩
  · refine mj_blk h.1 b_Wi_fault_9 rfl trivial ?_
    exact mj_iret h rfl d_Wi_fault_10 (by decide) (by decide) ⟨by unfold wFault; rw [if_neg h1], rfl⟩
end WIRE
