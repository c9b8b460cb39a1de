/-! Stream (by program: wip/whole/src_small.py) -/
abbrev wSm (tx hd : Nat → Int32) (ts : Nat) (hs nx rr : Int32) (bg en : Bool) : mj_M := [(0, .inr (8, [.ref 1, .ref 2, .int (nI ts), .int hs, .int nx, .int rr, .int (if bg then 1 else 0), .int (if en then 1 else 0)])), (1, .inl (0, 80, .inl tx)), (2, .inl (0, 32, .inl hd))]
def sFill : Nat → Nat → (Nat → Int32) → (Nat → Int32)
  | 0, _, f => f
  | r + 1, i, f => sFill r (i + 1) (upd f i (-1))
abbrev sPl (x : Int32) : Nat := (x &&& 31).toNatClampNeg
def sHd (hd : Nat → Int32) (nx num v : Int32) (lst : Bool) : Nat → Int32 := if num - nx < 0 then hd else if num - nx < 32 then (if hd (sPl num) = -1 then upd hd (sPl num) v else if lst then upd hd (sPl num) v else hd) else hd
def sHs (hd : Nat → Int32) (nx num hs : Int32) : Int32 := if num - nx < 0 then hs else if num - nx < 32 then (if hd (sPl num) = -1 then hs + 1 else hs) else hs
theorem sPl_in (x : Int32) : vp_in (x &&& 31) 32 := pk_andIn x 5 (m := 31) (by decide) (by decide)
section STREAM
variable (l : Launch) (D : va_G) (cA : Nat → ClassId)
variable (tx hd : Nat → Int32) (ts : Nat) (hs nx rr : Int32) (bg en : Bool)

set_option maxRecDepth 100000 in
set_option maxHeartbeats 4000000 in
theorem ev_Sm_size : E0_Sm_size l D cA [.ref 0] (wSm tx hd ts hs nx rr bg en) (some (.int (nI ts))) (wSm tx hd ts hs nx rr bg en) := by
  refine mj_ev (lv := [(0, .ref 0)]) (by decide +kernel) (Nat.le_of_ble_eq_true rfl) rfl (fun X h => ?_)
  refine mj_blk h.1 b_Sm_size_0 rfl trivial ?_
  exact mj_iret h rfl d_Sm_size_4 (by decide) (by decide) ⟨rfl, rfl⟩
set_option maxRecDepth 100000 in
set_option maxHeartbeats 4000000 in
theorem ev_Sm_next : E0_Sm_next l D cA [.ref 0] (wSm tx hd ts hs nx rr bg en) (some (.int (nx))) (wSm tx hd ts hs nx rr bg en) := by
  refine mj_ev (lv := [(0, .ref 0)]) (by decide +kernel) (Nat.le_of_ble_eq_true rfl) rfl (fun X h => ?_)
  refine mj_blk h.1 b_Sm_next_0 rfl trivial ?_
  exact mj_iret h rfl d_Sm_next_4 (by decide) (by decide) ⟨rfl, rfl⟩
set_option maxRecDepth 100000 in
set_option maxHeartbeats 4000000 in
theorem ev_Sm_heldCount : E0_Sm_heldCount l D cA [.ref 0] (wSm tx hd ts hs nx rr bg en) (some (.int (hs))) (wSm tx hd ts hs nx rr bg en) := by
  refine mj_ev (lv := [(0, .ref 0)]) (by decide +kernel) (Nat.le_of_ble_eq_true rfl) rfl (fun X h => ?_)
  refine mj_blk h.1 b_Sm_heldCount_0 rfl trivial ?_
  exact mj_iret h rfl d_Sm_heldCount_4 (by decide) (by decide) ⟨rfl, rfl⟩
set_option maxRecDepth 100000 in
set_option maxHeartbeats 4000000 in
theorem ev_Sm_hasEnded : E0_Sm_hasEnded l D cA [.ref 0] (wSm tx hd ts hs nx rr bg en) (some (.int (if en then 1 else 0))) (wSm tx hd ts hs nx rr bg en) := by
  refine mj_ev (lv := [(0, .ref 0)]) (by decide +kernel) (Nat.le_of_ble_eq_true rfl) rfl (fun X h => ?_)
  refine mj_blk h.1 b_Sm_hasEnded_0 rfl trivial ?_
  exact mj_zret h rfl (mj_z01) d_Sm_hasEnded_4 (by decide) (by decide) ⟨rfl, rfl⟩
set_option maxRecDepth 100000 in
set_option maxHeartbeats 4000000 in
theorem ev_Sm_end : E0_Sm_end l D cA [.ref 0] (wSm tx hd ts hs nx rr bg en) none (wSm tx hd ts hs nx rr bg true) := by
  refine mj_ev (lv := [(0, .ref 0)]) (by decide +kernel) (Nat.le_of_ble_eq_true rfl) rfl (fun X h => ?_)
  refine mj_blk h.1 b_Sm_end_0 rfl ⟨Or.inr rfl, trivial⟩ ?_
  exact mj_vret h rfl d_Sm_end_5 (by decide) (by decide) ⟨rfl, rfl⟩
set_option maxRecDepth 100000 in
set_option maxHeartbeats 4000000 in
theorem ev_Sm_placeOf (x : Int32) : E0_Sm_placeOf l D cA [.int x] [] (some (.int (x &&& 31))) [] := by
  refine mj_ev (lv := [(0, .int x)]) (by decide +kernel) (Nat.le_of_ble_eq_true rfl) rfl (fun X h => ?_)
  refine mj_blk h.1 b_Sm_placeOf_0 rfl trivial ?_
  exact mj_iret h rfl d_Sm_placeOf_4 (by decide) (by decide) ⟨rfl, rfl⟩
set_option maxRecDepth 100000 in
set_option maxHeartbeats 4000000 in
theorem ev_Sm_begin (x : Int32) : E0_Sm_begin l D cA [.ref 0, .int x] (wSm tx hd ts hs nx rr bg en) none (wSm tx hd ts hs (if bg then nx else x) rr true en) := by
  refine mj_ev (lv := [(0, .ref 0), (1, .int x)]) (by decide +kernel) (Nat.le_of_ble_eq_true rfl) rfl (fun X h => ?_)
  refine mj_blk h.1 b_Sm_begin_0 rfl trivial ?_
  first | refine mj_ifneB h.1 (tgt := 17) d_Sm_begin_4 (by decide) (fun h1 => ?_) (fun h1 => ?_) | refine mj_ifne h.1 (tgt := 17) d_Sm_begin_4 (by decide) (fun h1 => ?_) (fun h1 => ?_)
  · exact mj_vret h rfl d_Sm_begin_17 (by decide) (by decide) ⟨rfl, by cases bg <;> first | rfl | exact absurd rfl h1 | cases h1⟩
  · refine mj_blk h.1 b_Sm_begin_7 rfl ⟨Or.inr rfl, trivial⟩ ?_
    exact mj_vret h rfl d_Sm_begin_17 (by decide) (by decide) ⟨rfl, by cases bg <;> first | rfl | exact absurd rfl h1 | cases h1⟩
set_option maxRecDepth 100000 in
set_option maxHeartbeats 4000000 in
theorem ev_Sm_setRaised (r : Int32) : E0_Sm_setRaised l D cA [.ref 0, .int r] (wSm tx hd ts hs nx rr bg en) none (wSm tx hd ts hs nx (rr ||| (1 <<< (r &&& 31))) bg en) := by
  refine mj_ev (lv := [(0, .ref 0), (1, .int r)]) (by decide +kernel) (Nat.le_of_ble_eq_true rfl) rfl (fun X h => ?_)
  refine mj_blk h.1 b_Sm_setRaised_0 rfl trivial ?_
  exact mj_vret h rfl d_Sm_setRaised_12 (by decide) (by decide) ⟨rfl, rfl⟩
set_option maxRecDepth 100000 in
set_option maxHeartbeats 4000000 in
theorem ev_Sm_hasRaised (r : Int32) : E0_Sm_hasRaised l D cA [.ref 0, .int r] (wSm tx hd ts hs nx rr bg en) (some (.int (if ¬ rr &&& (1 <<< (r &&& 31)) = 0 then 1 else 0))) (wSm tx hd ts hs nx rr bg en) := by
  refine mj_ev (lv := [(0, .ref 0), (1, .int r)]) (by decide +kernel) (Nat.le_of_ble_eq_true rfl) rfl (fun X h => ?_)
  refine mj_blk h.1 b_Sm_hasRaised_0 rfl trivial ?_
  first | refine mj_ifeqB h.1 (tgt := 15) d_Sm_hasRaised_8 (by decide) (fun h1 => ?_) (fun h1 => ?_) | refine mj_ifeq h.1 (tgt := 15) d_Sm_hasRaised_8 (by decide) (fun h1 => ?_) (fun h1 => ?_)
  · refine mj_blk h.1 b_Sm_hasRaised_15 rfl trivial ?_
    exact mj_zret h rfl (by first | exact Or.inl rfl | exact Or.inr rfl) d_Sm_hasRaised_16 (by decide) (by decide) ⟨by first | (rw [if_pos h1]; done) | (rw [if_neg (fun h9 => h9 h1)]; done), rfl⟩
  · refine mj_blk h.1 b_Sm_hasRaised_11 rfl trivial ?_
    exact mj_zret h rfl (by first | exact Or.inl rfl | exact Or.inr rfl) d_Sm_hasRaised_16 (by decide) (by decide) ⟨by first | (rw [if_pos h1]; done) | (rw [if_neg (fun h9 => h9 h1)]; done), rfl⟩
set_option maxRecDepth 100000 in
set_option maxHeartbeats 4000000 in
theorem ev_Sm_byteAt (ht : ts ≤ 80) (k : Int32) : E0_Sm_byteAt l D cA [.ref 0, .int k] (wSm tx hd ts hs nx rr bg en) (some (.int (if 0 ≤ k ∧ k < nI ts then tx k.toNatClampNeg else -1))) (wSm tx hd ts hs nx rr bg en) := by
  refine mj_ev (lv := [(0, .ref 0), (1, .int k)]) (by decide +kernel) (Nat.le_of_ble_eq_true rfl) rfl (fun X h => ?_)
  refine mj_blk h.1 b_Sm_byteAt_0 rfl trivial ?_
  refine mj_iflt h.1 (tgt := 21) d_Sm_byteAt_1 (by decide) (fun h1 => ?_) (fun h1 => ?_)
  · refine mj_blk h.1 b_Sm_byteAt_21 rfl trivial ?_
    exact mj_iret h rfl d_Sm_byteAt_22 (by decide) (by decide) ⟨by first | (rw [if_neg (fun h9 => Int32.not_le.mpr h1 h9.1)]; done), rfl⟩
  · refine mj_blk h.1 b_Sm_byteAt_4 rfl trivial ?_
    refine mj_icge h.1 (tgt := 21) d_Sm_byteAt_9 (by decide) (fun h2 => ?_) (fun h2 => ?_)
    · refine mj_blk h.1 b_Sm_byteAt_21 rfl trivial ?_
      exact mj_iret h rfl d_Sm_byteAt_22 (by decide) (by decide) ⟨by first | (rw [if_neg (fun h9 => Int32.not_le.mpr h1 h9.1)]; done) | (rw [if_neg (fun h9 => Int32.not_lt.mpr h2 h9.2)]; done) | (rw [if_pos ⟨Int32.not_lt.mp h1, Int32.not_le.mp h2⟩]; done), rfl⟩
    · refine mj_blk h.1 b_Sm_byteAt_12 rfl ⟨vp_in_of2 ⟨Int32.not_lt.mp h1, Int32.not_le.mp h2⟩ ht (by decide), trivial⟩ ?_
      exact mj_iret h rfl d_Sm_byteAt_22 (by decide) (by decide) ⟨by first | (rw [if_neg (fun h9 => Int32.not_le.mpr h1 h9.1)]; done) | (rw [if_neg (fun h9 => Int32.not_lt.mpr h2 h9.2)]; done) | (rw [if_pos ⟨Int32.not_lt.mp h1, Int32.not_le.mp h2⟩]; done), rfl⟩
set_option maxRecDepth 100000 in
set_option maxHeartbeats 4000000 in
theorem ev_Sm_isNextHeld : E0_Sm_isNextHeld l D cA [.ref 0] (wSm tx hd ts hs nx rr bg en) (some (.int (if ¬ hd (sPl nx) = -1 then 1 else 0))) (wSm tx hd ts hs nx rr bg en) := by
  refine mj_ev (lv := [(0, .ref 0)]) (by decide +kernel) (Nat.le_of_ble_eq_true rfl) rfl (fun X h => ?_)
  refine mj_blk h.1 b_Sm_isNextHeld_0 rfl trivial ?_
  refine mj_callS h zGood (ev_Sm_placeOf l D cA _) v_Sm_placeOf rfl l_Sm_isNextHeld_8 d_Sm_isNextHeld_8 rfl ⟨by decide, by decide⟩ ⟨by decide, by decide⟩ [] rfl rfl rfl rfl (Nat.le_of_ble_eq_true rfl) ?_
  rintro _ _ ⟨rfl, rfl⟩
  refine mj_k rfl rfl ?_
  refine mj_blk h.1 b_Sm_isNextHeld_11 rfl ⟨sPl_in _, trivial⟩ ?_
  refine mj_iceq h.1 (tgt := 20) d_Sm_isNextHeld_13 (by decide) (fun h1 => ?_) (fun h1 => ?_)
  · refine mj_blk h.1 b_Sm_isNextHeld_20 rfl trivial ?_
    exact mj_zret h rfl (by first | exact Or.inl rfl | exact Or.inr rfl) d_Sm_isNextHeld_21 (by decide) (by decide) ⟨by first | (rw [if_pos h1]; done) | (rw [if_neg (fun h9 => h9 h1)]; done), rfl⟩
  · refine mj_blk h.1 b_Sm_isNextHeld_16 rfl trivial ?_
    exact mj_zret h rfl (by first | exact Or.inl rfl | exact Or.inr rfl) d_Sm_isNextHeld_21 (by decide) (by decide) ⟨by first | (rw [if_pos h1]; done) | (rw [if_neg (fun h9 => h9 h1)]; done), rfl⟩
set_option maxRecDepth 100000 in
set_option maxHeartbeats 4000000 in
theorem ev_Sm_hold (num v : Int32) (lst : Bool) : E0_Sm_hold l D cA [.ref 0, .int num, .int v, .int (if lst then 1 else 0)] (wSm tx hd ts hs nx rr bg en) none (wSm tx (sHd hd nx num v lst) ts (sHs hd nx num hs) nx rr bg en) := by
  refine mj_ev (lv := [(0, .ref 0), (1, .int num), (2, .int v), (3, .int (if lst then 1 else 0))]) (by decide +kernel) (Nat.le_of_ble_eq_true rfl) rfl (fun X h => ?_)
  refine mj_blk h.1 b_Sm_hold_0 rfl trivial ?_
  refine mj_iflt h.1 (tgt := 20) d_Sm_hold_10 (by decide) (fun h1 => ?_) (fun h1 => ?_)
  · exact mj_vret h rfl d_Sm_hold_20 (by decide) (by decide) ⟨rfl, by unfold sHd sHs; rw [if_pos h1]; first | rfl | rw [if_pos h1]⟩
  · refine mj_blk h.1 b_Sm_hold_13 rfl trivial ?_
    refine mj_iclt h.1 (tgt := 21) d_Sm_hold_17 (by decide) (fun h2 => ?_) (fun h2 => ?_)
    · refine mj_blk h.1 b_Sm_hold_21 rfl trivial ?_
      refine mj_callS h zGood (ev_Sm_placeOf l D cA _) v_Sm_placeOf rfl l_Sm_hold_22 d_Sm_hold_22 rfl ⟨by decide, by decide⟩ ⟨by decide, by decide⟩ [] rfl rfl rfl rfl (Nat.le_of_ble_eq_true rfl) ?_
      rintro _ _ ⟨rfl, rfl⟩
      refine mj_k rfl rfl ?_
      refine mj_blk h.1 b_Sm_hold_25 rfl ⟨sPl_in _, trivial⟩ ?_
      refine mj_icne h.1 (tgt := 59) d_Sm_hold_35 (by decide) (fun h3 => ?_) (fun h3 => ?_)
      · refine mj_blk h.1 b_Sm_hold_59 rfl trivial ?_
        first | refine mj_ifeqB h.1 (tgt := 71) d_Sm_hold_60 (by decide) (fun h4 => ?_) (fun h4 => ?_) | refine mj_ifeq h.1 (tgt := 71) d_Sm_hold_60 (by decide) (fun h4 => ?_) (fun h4 => ?_)
        · exact mj_vret h rfl d_Sm_hold_71 (by decide) (by decide) ⟨rfl, by unfold sHd sHs; rw [if_neg h1, if_pos h2, if_neg h3, if_neg h4]; first | rfl | rw [if_neg h1, if_pos h2, if_neg h3]⟩
        · refine mj_blk h.1 b_Sm_hold_63 rfl ⟨sPl_in _, trivial⟩ ?_
          exact mj_vret h rfl d_Sm_hold_71 (by decide) (by decide) ⟨rfl, by unfold sHd sHs; rw [if_neg h1, if_pos h2, if_neg h3, if_pos h4]; first | rfl | rw [if_neg h1, if_pos h2, if_neg h3]⟩
      · refine mj_blk h.1 b_Sm_hold_38 rfl ⟨sPl_in _, trivial⟩ ?_
        exact mj_vret h rfl d_Sm_hold_71 (by decide) (by decide) ⟨rfl, by unfold sHd sHs; rw [if_neg h1, if_pos h2, if_pos h3]; first | rfl | rw [if_neg h1, if_pos h2, if_pos h3]⟩
    · exact mj_vret h rfl d_Sm_hold_20 (by decide) (by decide) ⟨rfl, by unfold sHd sHs; rw [if_neg h1, if_neg h2]; first | rfl | rw [if_neg h1, if_neg h2]⟩
set_option maxRecDepth 100000 in
set_option maxHeartbeats 4000000 in
theorem ev_Sm_takeNext (ht : ts ≤ 80) : E0_Sm_takeNext l D cA [.ref 0] (wSm tx hd ts hs nx rr bg en) (some (.int (if ¬ 80 ≤ nI ts then 1 else 0))) (wSm (if 80 ≤ nI ts then tx else upd tx ts (hd (sPl nx))) (upd hd (sPl nx) (-1)) (if 80 ≤ nI ts then ts else ts + 1) (hs - 1) (nx + 1) rr bg en) := by
  refine mj_ev (lv := [(0, .ref 0)]) (by decide +kernel) (Nat.le_of_ble_eq_true rfl) rfl (fun X h => ?_)
  refine mj_blk h.1 b_Sm_takeNext_0 rfl trivial ?_
  refine mj_callS h zGood (ev_Sm_placeOf l D cA _) v_Sm_placeOf rfl l_Sm_takeNext_4 d_Sm_takeNext_4 rfl ⟨by decide, by decide⟩ ⟨by decide, by decide⟩ [] rfl rfl rfl rfl (Nat.le_of_ble_eq_true rfl) ?_
  rintro _ _ ⟨rfl, rfl⟩
  refine mj_k rfl rfl ?_
  refine mj_blk h.1 b_Sm_takeNext_7 rfl trivial ?_
  refine mj_icge h.1 (tgt := 21) d_Sm_takeNext_14 (by decide) (fun h1 => ?_) (fun h1 => ?_)
  · refine mj_blk h.1 b_Sm_takeNext_21 rfl trivial ?_
    refine mj_blk h.1 b_Sm_takeNext_22 rfl trivial ?_
    refine mj_ifeq0 h.1 (tgt := 52) d_Sm_takeNext_24 (by decide) ?_
    refine mj_blk h.1 b_Sm_takeNext_52 rfl ⟨sPl_in _, trivial⟩ ?_
    exact mj_zret h rfl (by first | exact Or.inl rfl | exact Or.inr rfl) d_Sm_takeNext_80 (by decide) (by decide) ⟨by rw [if_neg (fun h9 => h9 h1)], by rw [if_pos h1, if_pos h1]⟩
  · refine mj_blk h.1 b_Sm_takeNext_17 rfl trivial ?_
    refine mj_blk h.1 b_Sm_takeNext_22 rfl trivial ?_
    refine mj_ifeq1 h.1 (tgt := 52) d_Sm_takeNext_24 (by decide) ?_
    have hts : ts < 80 := (nI_ltI (by omega) (by decide)).mp (Int32.not_le.mp h1)
    refine mj_blk h.1 b_Sm_takeNext_27 rfl ⟨vp_in_nI hts (by decide), sPl_in _, trivial⟩ ?_
    refine mj_blk h.1 b_Sm_takeNext_52 rfl ⟨sPl_in _, trivial⟩ ?_
    exact mj_zret h rfl (by first | exact Or.inl rfl | exact Or.inr rfl) d_Sm_takeNext_80 (by decide) (by decide) ⟨by rw [if_pos h1], by rw [if_neg h1, if_neg h1, ← nI_succ, nI_clamp (by omega)]⟩
set_option maxRecDepth 100000 in
set_option maxHeartbeats 4000000 in
theorem lp_Sm_emptyWindow {X : mj_X} {post : mj_R} (h : mj_E zG X l D cA m_Sm_emptyWindow 0 0 0 0 (fun _ => True) post) : ∀ (r i : Nat) (hd : Nat → Int32), i + r = 32 → post none (wSm tx (sFill r i hd) ts 0 nx rr bg en) → mj_W zG X 0 0 2 [(1, .int (nI i)), (0, .ref 0)] [] (wSm tx hd ts hs nx rr bg en) := by
  intro r
  induction r with
  | zero =>
    intro i hd hi hp
    refine mj_blk h.1 b_Sm_emptyWindow_2 rfl trivial ?_
    refine mj_icge h.1 (tgt := 21) d_Sm_emptyWindow_5 (by decide) (fun h1 => ?_) (fun h1 => ?_)
    · refine mj_blk h.1 b_Sm_emptyWindow_21 rfl trivial ?_
      exact mj_vret h rfl d_Sm_emptyWindow_26 (by decide) (by decide) hp
    · exact absurd (show nI 32 ≤ nI i from nI_le (by omega) (by omega)) h1
  | succ r ih =>
    intro i hd hi hp
    refine mj_blk h.1 b_Sm_emptyWindow_2 rfl trivial ?_
    refine mj_icge h.1 (tgt := 21) d_Sm_emptyWindow_5 (by decide) (fun h1 => ?_) (fun h1 => ?_)
    · exact absurd ((nI_leI (a := 32) (by omega) (by omega)).mp h1) (by omega)
    · refine mj_blk h.1 b_Sm_emptyWindow_8 rfl ⟨vp_in_nI (by omega) (by decide), trivial⟩ ?_
      rw [nI_clamp (by omega), show nI i + 1 = nI (i + 1) from (nI_succ i).symm]
      exact ih (i + 1) _ (by omega) hp
set_option maxRecDepth 100000 in
set_option maxHeartbeats 4000000 in
theorem ev_Sm_emptyWindow : E0_Sm_emptyWindow l D cA [.ref 0] (wSm tx hd ts hs nx rr bg en) none (wSm tx (sFill 32 0 hd) ts 0 nx rr bg en) := by
  refine mj_ev (lv := [(0, .ref 0)]) (by decide +kernel) (Nat.le_of_ble_eq_true rfl) rfl (fun X h => ?_)
  refine mj_blk h.1 b_Sm_emptyWindow_0 rfl trivial ?_
  exact lp_Sm_emptyWindow l D cA tx ts hs nx rr bg en h 32 0 hd rfl ⟨rfl, rfl⟩
set_option maxRecDepth 100000 in
set_option maxHeartbeats 4000000 in
theorem ev_Sm_reset : E0_Sm_reset l D cA [.ref 0] (wSm tx hd ts hs nx rr bg en) none (wSm tx (sFill 32 0 hd) 0 0 0 0 false false) := by
  refine mj_ev (lv := [(0, .ref 0)]) (by decide +kernel) (Nat.le_of_ble_eq_true rfl) rfl (fun X h => ?_)
  refine mj_blk h.1 b_Sm_reset_0 rfl trivial ?_
  refine mj_callV h zGood (ev_Sm_emptyWindow l D cA _ _ _ _ _ _ _ _) v_Sm_emptyWindow l_Sm_reset_1 d_Sm_reset_1 rfl ⟨by decide, by decide⟩ ⟨by decide, by decide⟩ [(0, 0), (1, 1), (2, 2)] rfl rfl rfl rfl rfl rfl (Nat.le_of_ble_eq_true rfl) ?_
  rintro _ _ ⟨rfl, rfl⟩
  refine mj_k rfl rfl ?_
  refine mj_blk h.1 b_Sm_reset_4 rfl ⟨Or.inl rfl, Or.inl rfl, trivial⟩ ?_
  exact mj_vret h rfl d_Sm_reset_29 (by decide) (by decide) ⟨rfl, rfl⟩
end STREAM
