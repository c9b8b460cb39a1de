/-! AlertLog -/
abbrev wAl (rows : Nat → Int32) (tot nw : Int32) : mj_M := [(0, .inr (0, [.ref 1, .int tot, .int nw])), (1, .inl (0, 96, .inl rows))]
def aAdd (rows : Nat → Int32) (b : Nat) (r cp way sz : Int32) : Nat → Int32 := upd (upd (upd (upd rows (4 * b) r) (4 * b + 1) cp) (4 * b + 2) way) (4 * b + 3) sz
def aRead (rows : Nat → Int32) (tot nw k w : Int32) : Int32 := if 0 ≤ k ∧ k < (if 24 < tot then 24 else tot) then (if 0 ≤ w ∧ w < 4 then rows ((if nw < k then nw - k + 24 else nw - k) * 4 + w).toNatClampNeg else -1) else -1
section ALOG
variable (l : Launch) (D : va_G) (cA : Nat → ClassId) (rows : Nat → Int32) (tot nw : Int32)

set_option maxRecDepth 100000 in
set_option maxHeartbeats 4000000 in
theorem ev_Al_total : E0_Al_total l D cA [.ref 0] (wAl rows tot nw) (some (.int tot)) (wAl rows tot nw) := by
  refine mj_ev (lv := [(0, .ref 0)]) (by decide +kernel) (Nat.le_of_ble_eq_true rfl) rfl (fun X h => ?_)
  refine mj_blk h.1 b_Al_total_0 rfl trivial ?_
  exact mj_iret h rfl d_Al_total_4 (by decide) (by decide) ⟨rfl, rfl⟩
theorem a4 (b : Nat) : nI b * 4 = nI (4 * b) := by rw [show (4 : Int32) = nI 4 from rfl, pk_mul, Nat.mul_comm]
set_option maxRecDepth 100000 in
set_option maxHeartbeats 4000000 in
theorem ev_Al_add (b : Nat) (hb : b < 24) (hbb : (if 24 ≤ nw + 1 then 0 else nw + 1) = nI b) (r cp way sz : Int32) : E0_Al_add l D cA [.ref 0, .int r, .int cp, .int way, .int sz] (wAl rows tot nw) none (wAl (aAdd rows b r cp way sz) (tot + 1) (nI b)) := by
  refine mj_ev (lv := [(0, .ref 0), (1, .int r), (2, .int cp), (3, .int way), (4, .int sz)]) (by decide +kernel) (Nat.le_of_ble_eq_true rfl) rfl (fun X h => ?_)
  refine mj_blk h.1 b_Al_add_0 rfl trivial ?_
  refine mj_icge h.1 (tgt := 21) d_Al_add_9 (by decide) (fun h1 => ?_) (fun h1 => ?_)
  · refine mj_blk h.1 b_Al_add_21 rfl trivial ?_
    refine mj_top (show _ = nI b by rw [if_pos h1] at hbb; exact hbb) ?_
    refine mj_blk h.1 b_Al_add_22 rfl ⟨by rw [a4, show (3 : Int32) = nI 3 from rfl, nI_add]; exact vp_in_nI (by omega) (by decide), by rw [a4, show (2 : Int32) = nI 2 from rfl, nI_add]; exact vp_in_nI (by omega) (by decide), by rw [a4, nI_1]; exact vp_in_nI (by omega) (by decide), by rw [a4]; exact vp_in_nI (by omega) (by decide), trivial⟩ ?_
    exact mj_vret h rfl d_Al_add_82 (by decide) (by decide) ⟨rfl, by rw [a4, show (3 : Int32) = nI 3 from rfl, show (2 : Int32) = nI 2 from rfl, nI_1, nI_add, nI_add, nI_clamp (by omega), nI_clamp (by omega), nI_clamp (by omega), nI_clamp (by omega)]; rfl⟩
  · refine mj_blk h.1 b_Al_add_12 rfl trivial ?_
    refine mj_top (show _ = nI b by rw [if_neg h1] at hbb; exact hbb) ?_
    refine mj_blk h.1 b_Al_add_22 rfl ⟨by rw [a4, show (3 : Int32) = nI 3 from rfl, nI_add]; exact vp_in_nI (by omega) (by decide), by rw [a4, show (2 : Int32) = nI 2 from rfl, nI_add]; exact vp_in_nI (by omega) (by decide), by rw [a4, nI_1]; exact vp_in_nI (by omega) (by decide), by rw [a4]; exact vp_in_nI (by omega) (by decide), trivial⟩ ?_
    exact mj_vret h rfl d_Al_add_82 (by decide) (by decide) ⟨rfl, by rw [a4, show (3 : Int32) = nI 3 from rfl, show (2 : Int32) = nI 2 from rfl, nI_1, nI_add, nI_add, nI_clamp (by omega), nI_clamp (by omega), nI_clamp (by omega), nI_clamp (by omega)]; rfl⟩
end ALOG
