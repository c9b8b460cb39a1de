/-! The reference: base, clean (by program: wip/whole/src_md7.py) -/
/-- where option x's base lies when k options have places -/
def mBs (mk cs pl : Nat → Int32) (lN : Nat → Nat) (x k : Nat) : Int32 := if mk (mIx x) &&& 4 = 0 then 0 else if k = 0 then 0 else pl (k - 1) + cs (mIx (lN (k - 1)))
section MODG
variable (l : Launch) (D : va_G) (cA : Nat → ClassId) (th : Int32) (ls : Bool) (n : Nat) (ck : Int32) (ru : Nat) (tr al : Int32)

theorem pk_sub1 {k : Nat} (h : ¬ k = 0) : nI k - 1 = nI (k - 1) := by
  obtain ⟨j, rfl⟩ : ∃ j, k = j + 1 := ⟨k - 1, by omega⟩
  rw [nI_pred]
  rfl
set_option maxRecDepth 100000 in
set_option maxHeartbeats 4000000 in
theorem ev_Md_base (cs mk lvl pl : Nat → Int32) (lN : Nat → Nat) (x k : Nat) (hx : x < 18) (hk : k ≤ 3) (hl : ∀ i, i < k → lvl i = nI (lN i)) (hl2 : ∀ i, i < k → lN i < 18) : E0_Md_base l D cA [.ref 199, .int (nI x), .int (nI k)] [(199, cMd th ls n ck ru tr al), (223, cIs 18 cs), (225, cIs 18 mk), (229, cIs 3 lvl), (230, cIs 3 pl)] (some (.int (mBs mk cs pl lN x k))) [(199, cMd th ls n ck ru tr al), (223, cIs 18 cs), (225, cIs 18 mk), (229, cIs 3 lvl), (230, cIs 3 pl)] := by
  refine mj_ev (lv := [(0, .ref 199), (1, .int (nI x)), (2, .int (nI k))]) (by decide +kernel) (Nat.le_of_ble_eq_true rfl) rfl (fun X h => ?_)
  refine mj_blk h.1 b_Md_base_0 rfl ⟨vp_in_nI (by omega) (by decide), trivial⟩ ?_
  first | refine mj_ifeqB h.1 (tgt := 15) d_Md_base_8 (by decide) (fun h1 => ?_) (fun h1 => ?_) | refine mj_ifeq h.1 (tgt := 15) d_Md_base_8 (by decide) (fun h1 => ?_) (fun h1 => ?_)
  · refine mj_blk h.1 b_Md_base_15 rfl trivial ?_
    exact mj_iret h rfl d_Md_base_41 (by decide) (by decide) ⟨by unfold mBs; rw [if_pos h1], rfl⟩
  · refine mj_blk h.1 b_Md_base_11 rfl trivial ?_
    first | refine mj_ifneB h.1 (tgt := 19) d_Md_base_12 (by decide) (fun h2 => ?_) (fun h2 => ?_) | refine mj_ifne h.1 (tgt := 19) d_Md_base_12 (by decide) (fun h2 => ?_) (fun h2 => ?_)
    · have hk0 : ¬ k = 0 := fun h9 => h2 (by rw [h9]; rfl)
      refine mj_blk h.1 b_Md_base_19 rfl ⟨by rw [pk_sub1 hk0, nI_clamp (by omega), hl (k - 1) (by omega)]; exact vp_in_nI (hl2 (k - 1) (by omega)) (by decide), by rw [pk_sub1 hk0]; exact vp_in_nI (by omega) (by decide), by rw [pk_sub1 hk0]; exact vp_in_nI (by omega) (by decide), trivial⟩ ?_
      exact mj_iret h rfl d_Md_base_41 (by decide) (by decide) ⟨by unfold mBs; rw [if_neg h1, if_neg hk0]; rw [pk_sub1 hk0, nI_clamp (by omega), hl (k - 1) (by omega)], rfl⟩
    · refine mj_blk h.1 b_Md_base_15 rfl trivial ?_
      exact mj_iret h rfl d_Md_base_41 (by decide) (by decide) ⟨by unfold mBs; rw [if_neg h1, if_pos (by have := (nI_eq (b := 0) (by omega) (by decide)).mp h2; exact this)], rfl⟩
end MODG
