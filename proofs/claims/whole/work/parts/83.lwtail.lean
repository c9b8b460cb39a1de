/-! the law's calls of its helpers -/
section MJ1
variable {G : mj_G} {X : mj_X} {l : Launch} {D : va_G} {cA : Nat → ClassId} {Y : mj_N} {fr lo mc ms : Nat} {kp : Nat → Prop} {post : mj_R} {cells slots pc : Nat} {lv : mj_L} {st : List Value} {w : mj_M}
theorem mj_pw_keys {w w2 : mj_M} (e : w2.map Prod.fst = w.map Prod.fst) (h : mj_pw w) : mj_pw w2 := by
  have h1 : (w.map Prod.fst).Pairwise (· ≠ ·) := List.pairwise_map.mpr h
  rw [← e] at h1
  exact List.pairwise_map.mp h1
/-- a static method with handlers that makes no cell of the world is called -/
theorem mj_callSW1 (h : mj_E G X l D cA Y fr lo mc ms kp post) (hg : GoodIn G.2.1 G.2.1) {hh0 : List (Nat × Nat × Nat × Nat)} {TL : List Cond} {n0 : Nat} (hxc : mj_Xc X hh0 TL n0) {Z : mj_Zt} (hZ : mj_Z Z X.2.2.2.2.1) {Yc : mj_N} {hh : List (Nat × Nat × Nat × Nat)} {frc loc mcc msc n index : Nat} {As : List Value} {wc : mj_M} {Zc : mj_Zt} {K : List Nat} {postc : mj_R} (hev : mj_EvW G l D cA Yc hh frc loc mcc msc As wc K Zc TL n0 postc) (hvw : mj_Sw G Yc hh n)
    (hlink : Cond.methodLink Y.1.cls index Yc.1 ∈ G.2.1) (hZc : (∀ z ∈ Zc.1, z ∈ Z.1) ∧ ∀ C ∈ Zc.2, C ∈ Z.2) (hd : decode Y.2.1 pc = .ok (.invokestatic index, 3)) (hn : As.length = n) (hroom : frc + 1 ≤ fr ∧ 8 + (Yc.2.2.1 + 11) + loc ≤ lo) (hcells : cells + mcc ≤ mc ∧ slots + msc ≤ ms)
    (ρ : List (Nat × Nat)) {wx : mj_M} {rest as2 : List Value} (hsub : mj_ct ρ wc w = some (wx, wx)) (hnd : va_nd (wx.map Prod.fst) = true) (hargs : mj_rl ρ As some = some as2) (hst : st = as2.reverse ++ rest) (hrr : (rest.map fun v => v.category).sum ≤ 8)
    (kk : ∀ (r : Option Value) (w' : mj_M), postc r w' → ∃ (st2 : List Value) (w2 : mj_M), mj_fin ρ r w' w rest = some (st2, w2) ∧ w'.map Prod.fst = wc.map Prod.fst ∧ mj_sw9 K w' = true ∧ r.toList.all (mj_sv K) = true ∧ mj_W G X (cells + mcc) (slots + msc) (pc + 3) lv st2 w2) : mj_W G X cells slots pc lv st w := by
  obtain ⟨hwx, hin⟩ := mj_ct_in hsub
  rw [hwx] at hnd
  rw [mj_rl_eq hargs] at hst
  refine mj_callSW0 h hg hxc hZ hev hvw hlink hZc hd hn hroom hcells ρ [] hin hnd hst hrr (fun _ _ _ h => nomatch h) (fun _ h => nomatch h) List.Pairwise.nil (fun _ h => nomatch h) (fun _ h => nomatch h) (fun r w' hp hpw => ?_)
  obtain ⟨st2, w2, k1, k2, k3, k4, k5⟩ := kk r w' hp
  obtain ⟨e1, e2, e3⟩ := mj_fin_eq k1 hpw
  refine ⟨st2, w2, ⟨e1, mj_pw_keys e2 hpw, e3⟩, fun z hz => ?_, by rw [List.map_nil, List.append_nil]; exact k3, by rw [List.map_nil, List.append_nil]; exact k4, k5⟩
  have : z.1 ∈ w'.map Prod.fst := by rw [k2]; exact List.mem_map_of_mem hz
  obtain ⟨y, hy, e⟩ := List.mem_map.mp this
  exact ⟨y, hy, e⟩
end MJ1
/-! places outside 100 .. 159 -/
def rgN (a : Nat) : Bool := Nat.blt a 100 || Nat.ble 160 a
def rgV : Value → Bool
  | .ref a => rgN a
  | _ => true
def rgO : Option Nat → Bool
  | some a => rgN a
  | none => true
def rgC : mj_C → Bool
  | .inl (_, _, .inl _) => true
  | .inl (_, _, .inr (.inl _)) => true
  | .inl (_, _, .inr (.inr l)) => l.all rgO
  | .inr (_, fs) => fs.all rgV
theorem rgN_ok {a p : Nat} (h : rgN a = true) (hp : 100 ≤ p ∧ p < 160) : a ≠ p := by
  unfold rgN at h
  rw [Bool.or_eq_true] at h
  rcases h with h | h
  · have := Nat.blt_eq.mp h
    omega
  · have := Nat.le_of_ble_eq_true h
    omega
theorem rgC_ok {c : mj_C} {p : Nat} (h : rgC c = true) (hp : 100 ≤ p ∧ p < 160) : mj_nc p c := by
  obtain ⟨_, _, x | x | x⟩ | ⟨_, fs⟩ := c
  · trivial
  · trivial
  · intro hm
    exact rgN_ok (List.all_eq_true.mp h _ hm) hp rfl
  · intro v hv
    have := List.all_eq_true.mp h v hv
    cases v <;> first | trivial | exact rgN_ok this hp
theorem rg_nw {w : mj_M} {p : Nat} (h : w.all (fun q => rgN q.1 && rgC q.2) = true) (hp : 100 ≤ p ∧ p < 160) : mj_nw p w := by
  intro q hq
  have := List.all_eq_true.mp h q hq
  rw [Bool.and_eq_true] at this
  exact ⟨rgN_ok this.1 hp, rgC_ok this.2 hp⟩
theorem rg_nl {lv : mj_L} {p : Nat} (h : lv.all (fun q => rgV q.2) = true) (hp : 100 ≤ p ∧ p < 160) : mj_nl p lv := by
  intro q hq
  have := List.all_eq_true.mp h q hq
  obtain ⟨i, v⟩ := q
  cases v <;> first | trivial | exact rgN_ok this hp
theorem rlOf_no {rc p : Nat} (h : ∀ r, r < rc → p ≠ 100 + 10 * r) : some p ∉ rlOf rc := by
  unfold rlOf
  intro hm
  have h9 : ∀ (j x : Nat), x = 100 + 10 * j → some p = (if j < rc then some x else none) → False := by
    intro j x hx he
    by_cases hj : j < rc
    · rw [if_pos hj] at he
      cases he
      exact h j hj hx
    · rw [if_neg hj] at he
      cases he
  simp only [List.mem_cons, List.not_mem_nil, or_false] at hm
  rcases hm with h1 | h1 | h1 | h1 | h1 | h1
  · exact h9 0 _ rfl h1
  · exact h9 1 _ rfl h1
  · exact h9 2 _ rfl h1
  · exact h9 3 _ rfl h1
  · exact h9 4 _ rfl h1
  · exact h9 5 _ rfl h1
/-! the helpers' contracts, for every number of rules -/
def kR (rc : Nat) : List Nat := [0, 40, 50, 51, 53, 60, 70] ++ ((List.range rc).map (fun i => 100 + 10 * i) ++ [300])
def kO (r c : Nat) : List Nat := [0, 40, 50, 51, 53, 60, 70] ++ ((List.range (r + 1)).map (fun i => 100 + 10 * i) ++ ([101 + 10 * r] ++ ((List.range c).map (fun i => 102 + 10 * r + i) ++ [300])))
theorem kR_no {rc p q : Nat} (hq : q ∈ kR rc) (h1 : 100 ≤ p ∧ p < 160) (h2 : ∀ i, i < rc → p ≠ 100 + 10 * i) : p ≠ q := by
  unfold kR at hq
  rcases List.mem_append.mp hq with hq | hq
  · have : q < 100 := by
      simp only [List.mem_cons, List.not_mem_nil, or_false] at hq
      omega
    omega
  · rcases List.mem_append.mp hq with hq | hq
    · obtain ⟨i, hi, rfl⟩ := List.mem_map.mp hq
      exact h2 i (List.mem_range.mp hi)
    · simp only [List.mem_cons, List.not_mem_nil, or_false] at hq
      omega
theorem kO_no {r c p q : Nat} (hq : q ∈ kO r c) (h1 : 100 ≤ p ∧ p < 160) (h2 : ∀ i, i < r + 1 → p ≠ 100 + 10 * i) (h3 : ¬ (101 + 10 * r ≤ p ∧ p < 102 + 10 * r + c)) : p ≠ q := by
  unfold kO at hq
  rcases List.mem_append.mp hq with hq | hq
  · have : q < 100 := by
      simp only [List.mem_cons, List.not_mem_nil, or_false] at hq
      omega
    omega
  · rcases List.mem_append.mp hq with hq | hq
    · obtain ⟨i, hi, rfl⟩ := List.mem_map.mp hq
      exact h2 i (List.mem_range.mp hi)
    · rcases List.mem_append.mp hq with hq | hq
      · simp only [List.mem_cons, List.not_mem_nil, or_false] at hq
        omega
      · rcases List.mem_append.mp hq with hq | hq
        · obtain ⟨i, hi, rfl⟩ := List.mem_map.mp hq
          have := List.mem_range.mp hi
          omega
        · simp only [List.mem_cons, List.not_mem_nil, or_false] at hq
          omega
theorem ew_rule (l : Launch) (D : va_G) (cA : Nat → ClassId) (st : Bool) (n0 : Nat) (g : Nat → Int64) (rc : Nat) (hrc : rc < 6) (w p : Int32) (hg : ¬ w < 0 ∧ ¬ 2 < w ∧ ¬ p < 0 ∧ p ≤ 65535) : mj_EvW zG l D cA m_Lw_rule h_rule 7 270 2 7 [.ref 50, .int w, .int p, .ref 300] [(50, cSw st rc), (53, cRs (rlOf rc)), (300, cLg g)] (kR rc) Z_Ru TLx n0 (fun r1 w1 => r1 = some (.int 0) ∧ w1 = [(50, cSw st (rc + 1)), (53, cRs (rlOf (rc + 1))), (300, cLg (vp_updL g 0 (nI rc).toInt64))] ++ [(100 + 10 * rc, cRu (101 + 10 * rc) w p 0), (101 + 10 * rc, cOs [none, none, none])]) := by
  match rc, hrc with
  | 0, _ => exact ew_rule_0 l D cA st n0 g w p hg
  | 1, _ => exact ew_rule_1 l D cA st n0 g w p hg
  | 2, _ => exact ew_rule_2 l D cA st n0 g w p hg
  | 3, _ => exact ew_rule_3 l D cA st n0 g w p hg
  | 4, _ => exact ew_rule_4 l D cA st n0 g w p hg
  | 5, _ => exact ew_rule_5 l D cA st n0 g w p hg
  | rc + 6, h => omega
theorem ew_option (l : Launch) (D : va_G) (cA : Nat → ClassId) (st : Bool) (n0 : Nat) (g : Nat → Int64) (r c : Nat) (hr : r < 6) (hc : c < 3) (wy pt : Int32) (cz : Nat) (v : Int64) (m a b : Int32) (hg : ¬ nI cz < 1 ∧ ¬ 6 < nI cz ∧ ¬ m < 0 ∧ ¬ 7 < m ∧ ¬ a < -80 ∧ ¬ 80 < a ∧ ¬ b < 0 ∧ b ≤ 80) : mj_EvW zG l D cA m_Lw_option h_option 7 270 1 7 [.ref 50, .int (nI cz), .long v, .int m, .int a, .int b, .ref 300] [(50, cSw st (r + 1)), (53, cRs (rlOf (r + 1))), (100 + 10 * r, cRu (101 + 10 * r) wy pt c), (101 + 10 * r, cOs (olOf r c)), (300, cLg g)] (kO r c) Z_0 TLx n0 (fun r1 w1 => r1 = some (.int 0) ∧ w1 = [(50, cSw st (r + 1)), (53, cRs (rlOf (r + 1))), (100 + 10 * r, cRu (101 + 10 * r) wy pt (c + 1)), (101 + 10 * r, cOs (olOf r (c + 1))), (300, cLg (vp_updL g 0 (nI (c + 1)).toInt64))] ++ [(102 + 10 * r + c, cOt (uNew cz v m a b))]) := by
  match r, hr, c, hc with
  | 0, _, 0, _ => exact ew_option_1_0 l D cA st n0 g wy pt cz v m a b hg
  | 0, _, 1, _ => exact ew_option_1_1 l D cA st n0 g wy pt cz v m a b hg
  | 0, _, 2, _ => exact ew_option_1_2 l D cA st n0 g wy pt cz v m a b hg
  | 1, _, 0, _ => exact ew_option_2_0 l D cA st n0 g wy pt cz v m a b hg
  | 1, _, 1, _ => exact ew_option_2_1 l D cA st n0 g wy pt cz v m a b hg
  | 1, _, 2, _ => exact ew_option_2_2 l D cA st n0 g wy pt cz v m a b hg
  | 2, _, 0, _ => exact ew_option_3_0 l D cA st n0 g wy pt cz v m a b hg
  | 2, _, 1, _ => exact ew_option_3_1 l D cA st n0 g wy pt cz v m a b hg
  | 2, _, 2, _ => exact ew_option_3_2 l D cA st n0 g wy pt cz v m a b hg
  | 3, _, 0, _ => exact ew_option_4_0 l D cA st n0 g wy pt cz v m a b hg
  | 3, _, 1, _ => exact ew_option_4_1 l D cA st n0 g wy pt cz v m a b hg
  | 3, _, 2, _ => exact ew_option_4_2 l D cA st n0 g wy pt cz v m a b hg
  | 4, _, 0, _ => exact ew_option_5_0 l D cA st n0 g wy pt cz v m a b hg
  | 4, _, 1, _ => exact ew_option_5_1 l D cA st n0 g wy pt cz v m a b hg
  | 4, _, 2, _ => exact ew_option_5_2 l D cA st n0 g wy pt cz v m a b hg
  | 5, _, 0, _ => exact ew_option_6_0 l D cA st n0 g wy pt cz v m a b hg
  | 5, _, 1, _ => exact ew_option_6_1 l D cA st n0 g wy pt cz v m a b hg
  | 5, _, 2, _ => exact ew_option_6_2 l D cA st n0 g wy pt cz v m a b hg
  | r + 6, h, _, _ => omega
  | _, _, c + 3, h => omega
theorem ew_option_3 (l : Launch) (hfl : l.flags = pinnedFlags ++ [noTraceFlag]) (D : va_G) (cA : Nat → ClassId) (st : Bool) (n0 : Nat) (g : Nat → Int64) (r : Nat) (hr : r < 6) (c : Int32) (v : Int64) (m a b : Int32) (wy pt : Int32) (hg : ¬ c < 1 ∧ ¬ 6 < c ∧ ¬ m < 0 ∧ ¬ 7 < m ∧ ¬ a < -80 ∧ ¬ 80 < a ∧ ¬ b < 0 ∧ b ≤ 80) : mj_EvW zG l D cA m_Lw_option h_option 7 270 1 6 [.ref 50, .int c, .long v, .int m, .int a, .int b, .ref 300] [(50, cSw st (r + 1)), (53, cRs (rlOf (r + 1))), (100 + 10 * r, cRu (101 + 10 * r) wy pt 3), (300, cLg g)] (kO r 0) Z_0 TLx n0 (fun r1 w1 => r1 = some (.int 2) ∧ w1 = [(50, cSw st (r + 1)), (53, cRs (rlOf (r + 1))), (100 + 10 * r, cRu (101 + 10 * r) wy pt 3), (300, cLg g)]) := by
  match r, hr with
  | 0, _ => exact ew_option_1_3 l hfl D cA st n0 g c v m a b wy pt hg
  | 1, _ => exact ew_option_2_3 l hfl D cA st n0 g c v m a b wy pt hg
  | 2, _ => exact ew_option_3_3 l hfl D cA st n0 g c v m a b wy pt hg
  | 3, _ => exact ew_option_4_3 l hfl D cA st n0 g c v m a b wy pt hg
  | 4, _ => exact ew_option_5_3 l hfl D cA st n0 g c v m a b wy pt hg
  | 5, _ => exact ew_option_6_3 l hfl D cA st n0 g c v m a b wy pt hg
  | r + 6, h => omega
theorem sw_craft : mj_Sw zG m_Lw_craft h_craft 8 := ⟨zin3 (List.mem_of_getElem? (i := 113) rfl) rfl, z1_0, cw_Lw_craft, by decide, by decide, by decide +kernel⟩
theorem sw_rule : mj_Sw zG m_Lw_rule h_rule 4 := ⟨zin3 (List.mem_of_getElem? (i := 203) rfl) rfl, z1_0, cw_Lw_rule, by decide, by decide, by decide +kernel⟩
theorem sw_option : mj_Sw zG m_Lw_option h_option 7 := ⟨zin4 (List.mem_of_getElem? (i := 10) rfl) rfl, z1_0, cw_Lw_option, by decide, by decide, by decide +kernel⟩
