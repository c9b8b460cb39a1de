/-! the world after a helper that adds to the rules -/
theorem lw_join {A A2 w1 : mj_M} {st2 : List Value} {c5 d5 : mj_C} {F F2 Nw : mj_M} (hf : mj_fin [] (some (.int 0)) w1 A [] = some (st2, A2)) (hka : A.all (fun q => rgN q.1 && !(Nat.beq q.1 53)) = true) (hk1 : w1.all (fun q => rgN q.1 && !(Nat.beq q.1 53)) = true) (hpw : mj_pw (A ++ (53, c5) :: F))
    (hF2 : mj_pw F2) (hF2k : ∀ q ∈ F2, 100 ≤ q.1 ∧ q.1 < 160) (hFk : ∀ q ∈ F, 100 ≤ q.1 ∧ q.1 < 160) (hNk : ∀ q ∈ Nw, 100 ≤ q.1 ∧ q.1 < 160) (hm : ∀ q ∈ F2, q ∈ Nw ∨ (q ∈ F ∧ ∀ z ∈ Nw, z.1 ≠ q.1)) :
    mj_pw (A2 ++ (53, d5) :: F2) ∧ ∀ q ∈ A2 ++ (53, d5) :: F2, (q ∈ w1 ∨ q = (53, d5) ∨ q ∈ Nw) ∨ (q ∈ A ++ (53, c5) :: F ∧ ∀ z, (z ∈ w1 ∨ z = (53, d5) ∨ z ∈ Nw) → z.1 ≠ q.1) := by
  obtain ⟨pA, -, -⟩ := List.pairwise_append.mp hpw
  obtain ⟨-, e2, e3⟩ := mj_fin_eq hf pA
  rw [mj_wr0] at e3
  have key : ∀ {B : mj_M}, B.all (fun q => rgN q.1 && !(Nat.beq q.1 53)) = true → ∀ a ∈ B.map Prod.fst, rgN a = true ∧ a ≠ 53 := by
    intro B hB a ha
    obtain ⟨q, hq, rfl⟩ := List.mem_map.mp ha
    have := List.all_eq_true.mp hB q hq
    rw [Bool.and_eq_true] at this
    exact ⟨this.1, mj_nb this.2⟩
  have kA := key hka
  have k1 := key hk1
  have kA2 : ∀ q ∈ A2, rgN q.1 = true ∧ q.1 ≠ 53 := fun q hq => kA q.1 (by rw [← e2]; exact List.mem_map_of_mem hq)
  refine ⟨List.pairwise_append.mpr ⟨mj_pw_keys e2 pA, List.pairwise_cons.mpr ⟨fun b hb => ?_, hF2⟩, fun a ha b hb => ?_⟩, fun q hq => ?_⟩
  · have := hF2k b hb
    show 53 ≠ b.1
    omega
  · rcases List.mem_cons.mp hb with rfl | hb
    · exact (kA2 a ha).2
    · exact rgN_ok (kA2 a ha).1 (hF2k b hb)
  · rcases List.mem_append.mp hq with hq | hq
    · rcases e3 q hq with h | ⟨h, h2⟩
      · exact Or.inl (Or.inl h)
      · refine Or.inr ⟨List.mem_append_left _ h, fun z hz => ?_⟩
        rcases hz with hz | rfl | hz
        · exact h2 z hz
        · exact (kA2 q hq).2.symm
        · exact (rgN_ok (kA2 q hq).1 (hNk z hz)).symm
    · rcases List.mem_cons.mp hq with rfl | hq
      · exact Or.inl (Or.inr (Or.inl rfl))
      · rcases hm q hq with h | ⟨h, h2⟩
        · exact Or.inl (Or.inr (Or.inr h))
        · refine Or.inr ⟨List.mem_append_right _ (List.mem_cons_of_mem _ h), fun z hz => ?_⟩
          have hk := hFk q h
          rcases hz with hz | rfl | hz
          · exact rgN_ok (k1 z.1 (List.mem_map_of_mem hz)).1 hk
          · show 53 ≠ q.1
            omega
          · exact h2 z hz
theorem lw_nw {A F : mj_M} {rc p : Nat} (hA : A.all (fun q => rgN q.1 && rgC q.2) = true) (hp : 100 ≤ p ∧ p < 160) (h1 : ∀ r, r < rc → p ≠ 100 + 10 * r) (h2 : mj_nw p F) : mj_nw p (A ++ (53, cRs (rlOf rc)) :: F) := by
  intro q hq
  rcases List.mem_append.mp hq with hq | hq
  · exact rg_nw hA hp q hq
  · rcases List.mem_cons.mp hq with rfl | hq
    · exact ⟨by show 53 ≠ p; omega, rlOf_no h1⟩
    · exact h2 q hq
theorem sw9_rule (st : Bool) (g : Nat → Int64) (w p : Int32) (rc : Nat) (h : rc < 6) : mj_sw9 (kR rc ++ [(100 + 10 * rc, 100 + 10 * rc), (101 + 10 * rc, 101 + 10 * rc)].map Prod.fst) ([(50, cSw st (rc + 1)), (53, cRs (rlOf (rc + 1))), (300, cLg g)] ++ [(100 + 10 * rc, cRu (101 + 10 * rc) w p 0), (101 + 10 * rc, cOs [none, none, none])]) = true := by
  match rc, h with
  | 0, _ => rfl
  | 1, _ => rfl
  | 2, _ => rfl
  | 3, _ => rfl
  | 4, _ => rfl
  | 5, _ => rfl
  | rc + 6, h => omega
theorem sw9_opt (st : Bool) (g : Nat → Int64) (wy pt : Int32) (o : oT) (r c : Nat) (hr : r < 6) (hc : c < 3) : mj_sw9 (kO r c ++ [(102 + 10 * r + c, 102 + 10 * r + c)].map Prod.fst) ([(50, cSw st (r + 1)), (53, cRs (rlOf (r + 1))), (100 + 10 * r, cRu (101 + 10 * r) wy pt (c + 1)), (101 + 10 * r, cOs (olOf r (c + 1))), (300, cLg g)] ++ [(102 + 10 * r + c, cOt o)]) = true := by
  match r, hr, c, hc with
  | 0, _, 0, _ => rfl
  | 0, _, 1, _ => rfl
  | 0, _, 2, _ => rfl
  | 1, _, 0, _ => rfl
  | 1, _, 1, _ => rfl
  | 1, _, 2, _ => rfl
  | 2, _, 0, _ => rfl
  | 2, _, 1, _ => rfl
  | 2, _, 2, _ => rfl
  | 3, _, 0, _ => rfl
  | 3, _, 1, _ => rfl
  | 3, _, 2, _ => rfl
  | 4, _, 0, _ => rfl
  | 4, _, 1, _ => rfl
  | 4, _, 2, _ => rfl
  | 5, _, 0, _ => rfl
  | 5, _, 1, _ => rfl
  | 5, _, 2, _ => rfl
  | r + 6, h, _, _ => omega
  | _, _, c + 3, h => omega
