/-! the rules' cells in the law's world -/
def rlOf (rc : Nat) : List (Option Nat) := [if 0 < rc then some 100 else none, if 1 < rc then some 110 else none, if 2 < rc then some 120 else none, if 3 < rc then some 130 else none, if 4 < rc then some 140 else none, if 5 < rc then some 150 else none]
def olOf (r c : Nat) : List (Option Nat) := [if 0 < c then some (102 + 10 * r) else none, if 1 < c then some (103 + 10 * r) else none, if 2 < c then some (104 + 10 * r) else none]
theorem rC_mem {r : Nat} {wy pt : Int32} {os : List oT} (ho : os.length ≤ 3) (q : Nat × mj_C) : q ∈ rC r wy pt os ↔ q = (100 + 10 * r, cRu (101 + 10 * r) wy pt os.length) ∨ q = (101 + 10 * r, cOs (olOf r os.length)) ∨ ∃ i t, os[i]? = some t ∧ q = (102 + 10 * r + i, cOt t) := by
  rcases os with _ | ⟨t0, _ | ⟨t1, _ | ⟨t2, _ | ⟨t3, os⟩⟩⟩⟩
  · simp only [rC, List.mem_cons, List.not_mem_nil, or_false]
    constructor
    · rintro (h | h)
      · exact Or.inl h
      · exact Or.inr (Or.inl h)
    · rintro (h | h | ⟨i, t, h, -⟩)
      · exact Or.inl h
      · exact Or.inr h
      · cases h
  · simp only [rC, List.mem_cons, List.not_mem_nil, or_false]
    constructor
    · rintro (h | h | h)
      · exact Or.inl h
      · exact Or.inr (Or.inl h)
      · exact Or.inr (Or.inr ⟨0, t0, rfl, h⟩)
    · rintro (h | h | ⟨i, t, h, h2⟩)
      · exact Or.inl h
      · exact Or.inr (Or.inl h)
      · match i, h with
        | 0, h => cases h; exact Or.inr (Or.inr h2)
        | i + 1, h => cases h
  · simp only [rC, List.mem_cons, List.not_mem_nil, or_false]
    constructor
    · rintro (h | h | h | h)
      · exact Or.inl h
      · exact Or.inr (Or.inl h)
      · exact Or.inr (Or.inr ⟨0, t0, rfl, h⟩)
      · exact Or.inr (Or.inr ⟨1, t1, rfl, by rw [h]; congr 1; omega⟩)
    · rintro (h | h | ⟨i, t, h, h2⟩)
      · exact Or.inl h
      · exact Or.inr (Or.inl h)
      · match i, h with
        | 0, h => cases h; exact Or.inr (Or.inr (Or.inl h2))
        | 1, h => cases h; exact Or.inr (Or.inr (Or.inr (by rw [h2]; congr 1; omega)))
        | i + 2, h => cases h
  · simp only [rC, List.mem_cons, List.not_mem_nil, or_false]
    constructor
    · rintro (h | h | h | h | h)
      · exact Or.inl h
      · exact Or.inr (Or.inl h)
      · exact Or.inr (Or.inr ⟨0, t0, rfl, h⟩)
      · exact Or.inr (Or.inr ⟨1, t1, rfl, by rw [h]; congr 1; omega⟩)
      · exact Or.inr (Or.inr ⟨2, t2, rfl, by rw [h]; congr 1; omega⟩)
    · rintro (h | h | ⟨i, t, h, h2⟩)
      · exact Or.inl h
      · exact Or.inr (Or.inl h)
      · match i, h with
        | 0, h => cases h; exact Or.inr (Or.inr (Or.inl h2))
        | 1, h => cases h; exact Or.inr (Or.inr (Or.inr (Or.inl (by rw [h2]; congr 1; omega))))
        | 2, h => cases h; exact Or.inr (Or.inr (Or.inr (Or.inr (by rw [h2]; congr 1; omega))))
        | i + 3, h => cases h
  · simp only [List.length_cons] at ho
    omega
/-- F holds the cells of rc rules, and nothing else -/
def rF (rc : Nat) (wy pt : Nat → Int32) (os : Nat → List oT) (F : mj_M) : Prop := (∀ r, r < rc → (os r).length ≤ 3) ∧ (∀ q, q ∈ F ↔ ∃ r, r < rc ∧ q ∈ rC r (wy r) (pt r) (os r)) ∧ F.Pairwise (fun a b => a.1 ≠ b.1)
theorem rC_key {r : Nat} {wy pt : Int32} {os : List oT} (ho : os.length ≤ 3) {q : Nat × mj_C} (hq : q ∈ rC r wy pt os) : 100 + 10 * r ≤ q.1 ∧ q.1 < 102 + 10 * r + os.length := by
  rcases (rC_mem ho q).mp hq with rfl | rfl | ⟨i, t, h, rfl⟩
  · exact ⟨Nat.le_refl _, by show 100 + 10 * r < _; omega⟩
  · exact ⟨by show _ ≤ 101 + 10 * r; omega, by show 101 + 10 * r < _; omega⟩
  · have := (List.getElem?_eq_some_iff.mp h).1
    exact ⟨by show _ ≤ 102 + 10 * r + i; omega, by show 102 + 10 * r + i < _; omega⟩
theorem olOf_no {r c p : Nat} (hp : ¬ (102 + 10 * r ≤ p ∧ p < 102 + 10 * r + c)) : some p ∉ olOf r c := by
  unfold olOf
  intro h
  simp only [List.mem_cons, List.not_mem_nil, or_false] at h
  rcases h with h | h | h
  · by_cases h0 : 0 < c
    · rw [if_pos h0] at h
      cases h
      omega
    · rw [if_neg h0] at h
      cases h
  · by_cases h0 : 1 < c
    · rw [if_pos h0] at h
      cases h
      omega
    · rw [if_neg h0] at h
      cases h
  · by_cases h0 : 2 < c
    · rw [if_pos h0] at h
      cases h
      omega
    · rw [if_neg h0] at h
      cases h
theorem rC_no {r : Nat} {wy pt : Int32} {os : List oT} (ho : os.length ≤ 3) {q : Nat × mj_C} (hq : q ∈ rC r wy pt os) {p : Nat} (hp : ¬ (100 + 10 * r ≤ p ∧ p < 102 + 10 * r + os.length)) : q.1 ≠ p ∧ mj_nc p q.2 := by
  refine ⟨fun h => hp (h ▸ rC_key ho hq), ?_⟩
  rcases (rC_mem ho q).mp hq with rfl | rfl | ⟨i, t, h, rfl⟩
  · intro v hv
    simp only [List.mem_cons, List.not_mem_nil, or_false] at hv
    rcases hv with rfl | rfl | rfl | rfl
    · trivial
    · trivial
    · show 101 + 10 * r ≠ p
      omega
    · trivial
  · exact olOf_no (by omega)
  · intro v hv
    simp only [List.mem_cons, List.not_mem_nil, or_false] at hv
    rcases hv with rfl | rfl | rfl | rfl | rfl | rfl | rfl <;> trivial
theorem rC_cr {r : Nat} {wy pt : Int32} {os : List oT} (ho : os.length ≤ 3) {q : Nat × mj_C} (hq : q ∈ rC r wy pt os) {g : Nat → Nat} (hg : ∀ i, 100 ≤ i → g i = i) : (g q.1, mj_cr g q.2) = q := by
  have h1 : g q.1 = q.1 := hg _ (by have := rC_key ho hq; omega)
  have h2 : mj_cr g q.2 = q.2 := by
    rcases (rC_mem ho q).mp hq with rfl | rfl | ⟨i, t, h, rfl⟩
    · show (.inr (6, [.int wy, .int pt, .ref (g (101 + 10 * r)), .int (nI os.length)]) : mj_C) = _
      rw [hg _ (by omega)]
    · show (.inl (5, 3, .inr (.inr ((olOf r os.length).map (Option.map g)))) : mj_C) = _
      have : (olOf r os.length).map (Option.map g) = olOf r os.length := by
        have h9 : ∀ (P : Prop) [Decidable P] (j : Nat), 100 ≤ j → Option.map g (if P then some j else none) = if P then some j else none := by
          intro P _ j hj
          by_cases hP : P
          · rw [if_pos hP]
            show some (g j) = some j
            rw [hg j hj]
          · rw [if_neg hP]
            rfl
        unfold olOf
        simp only [List.map_cons, List.map_nil]
        rw [h9 _ _ (by omega), h9 _ _ (by omega), h9 _ _ (by omega)]
      rw [this]
    · rfl
  rw [h1, h2]
theorem nd_of {l : List Nat} (h : l.Pairwise (· ≠ ·)) : va_nd l = true := by
  induction l with
  | nil => rfl
  | cons a l ih =>
    obtain ⟨h1, h2⟩ := List.pairwise_cons.mp h
    have : va_nd (a :: l) = (!(l.contains a) && va_nd l) := by
      first | rfl | (simp [va_nd]; done)
    rw [this, ih h2]
    simp only [Bool.and_true, Bool.not_eq_true', List.contains_eq_any_beq, List.any_eq_false]
    intro x hx
    simpa using h1 x hx
theorem rF_key {rc : Nat} {wy pt : Nat → Int32} {os : Nat → List oT} {F : mj_M} (h : rF rc wy pt os F) (hrc : rc ≤ 6) {q : Nat × mj_C} (hq : q ∈ F) : 100 ≤ q.1 ∧ q.1 < 160 := by
  obtain ⟨r, hr, hq⟩ := (h.2.1 q).mp hq
  have h1 := h.1 r hr
  have h2 := rC_key h1 hq
  omega
theorem rF_nd {rc : Nat} {wy pt : Nat → Int32} {os : Nat → List oT} {F : mj_M} (h : rF rc wy pt os F) : va_nd (F.map Prod.fst) = true := nd_of (List.pairwise_map.mpr h.2.2)
theorem rF_K {rc : Nat} {wy pt : Nat → Int32} {os : Nat → List oT} {F : mj_M} (h : rF rc wy pt os F) (hrc : rc ≤ 6) (rl : List (Option Nat)) : rK ((53, cRs rl) :: F) := by
  refine ⟨nd_of ?_, fun q hq => ?_⟩
  · rw [List.map_cons, List.pairwise_cons]
    refine ⟨fun a ha => ?_, List.pairwise_map.mpr h.2.2⟩
    obtain ⟨q, hq, rfl⟩ := List.mem_map.mp ha
    have := rF_key h hrc hq
    show 53 ≠ q.1
    omega
  · rcases List.mem_cons.mp hq with rfl | hq
    · exact Or.inl rfl
    · exact Or.inr (rF_key h hrc hq).1
theorem rlOf_map {rc : Nat} {g : Nat → Nat} (hg : ∀ i, 100 ≤ i → g i = i) : (rlOf rc).map (Option.map g) = rlOf rc := by
  have h9 : ∀ (P : Prop) [Decidable P] (j : Nat), 100 ≤ j → Option.map g (if P then some j else none) = if P then some j else none := by
    intro P _ j hj
    by_cases hP : P
    · rw [if_pos hP]
      show some (g j) = some j
      rw [hg j hj]
    · rw [if_neg hP]
      rfl
  unfold rlOf
  simp only [List.map_cons, List.map_nil]
  rw [h9 _ _ (by omega), h9 _ _ (by omega), h9 _ _ (by omega), h9 _ _ (by omega), h9 _ _ (by omega), h9 _ _ (by omega)]
theorem rF_Q {rc : Nat} {wy pt : Nat → Int32} {os : Nat → List oT} {F : mj_M} (h : rF rc wy pt os F) : rQ ((53, cRs (rlOf rc)) :: F) := by
  intro g hg
  have hg2 : ∀ i, 100 ≤ i → g i = i := fun i hi => hg i (Or.inr hi)
  unfold mj_wr
  rw [List.map_cons]
  have h1 : (g 53, mj_cr g (cRs (rlOf rc))) = (53, cRs (rlOf rc)) := by
    rw [hg 53 (Or.inl rfl)]
    show (53, (.inl (4, 6, .inr (.inr ((rlOf rc).map (Option.map g)))) : mj_C)) = _
    rw [rlOf_map hg2]
  rw [h1]
  congr 1
  have h2 : ∀ q ∈ F, (fun q : Nat × mj_C => (g q.1, mj_cr g q.2)) q = id q := by
    intro q hq
    obtain ⟨r, hr, hq⟩ := (h.2.1 q).mp hq
    exact rC_cr (h.1 r hr) hq hg2
  rw [List.map_congr_left h2, List.map_id]
theorem rlOf_at {rc r : Nat} (hrc : rc ≤ 6) (hr : r < rc) : (rlOf rc).getD r none = some (100 + 10 * r) := by
  match r, hr with
  | 0, hr => show (if 0 < rc then some 100 else none) = _; rw [if_pos hr]
  | 1, hr => show (if 1 < rc then some 110 else none) = _; rw [if_pos hr]
  | 2, hr => show (if 2 < rc then some 120 else none) = _; rw [if_pos hr]
  | 3, hr => show (if 3 < rc then some 130 else none) = _; rw [if_pos hr]
  | 4, hr => show (if 4 < rc then some 140 else none) = _; rw [if_pos hr]
  | 5, hr => show (if 5 < rc then some 150 else none) = _; rw [if_pos hr]
  | r + 6, hr => omega
theorem rF_R {rc : Nat} {wy pt : Nat → Int32} {os : Nat → List oT} {F : mj_M} (h : rF rc wy pt os F) {R : mR} (hR : uRul rc wy pt os R) (tx : Nat → Int32) (ts : Nat) (hts : ts ≤ 80) : raR rc (rlOf rc) wy pt os tx ts ((53, cRs (rlOf rc)) :: F) := by
  refine ⟨List.mem_cons_self, fun r hr => ?_⟩
  obtain ⟨k1, k2, k3, k4, k5, k6⟩ := hR.2 r hr
  have hok := u_rlOk (Nat.lt_of_lt_of_le hr hR.1) (os r) 0 (by omega) k6
  exact ⟨fun q hq => List.mem_cons_of_mem _ ((h.2.1 q).mpr ⟨r, hr, hq⟩), rlOf_at hR.1 hr, by omega, fun t ht => (hok t ht).2.2, u_vInd hts tx (os r) hok⟩
theorem rF_fresh {rc : Nat} {wy pt : Nat → Int32} {os : Nat → List oT} {F : mj_M} (h : rF rc wy pt os F) {p : Nat} (hp : ∀ r, r < rc → ¬ (100 + 10 * r ≤ p ∧ p < 102 + 10 * r + (os r).length)) : mj_nw p F := by
  intro q hq
  obtain ⟨r, hr, hq⟩ := (h.2.1 q).mp hq
  exact rC_no (h.1 r hr) hq (hp r hr)
theorem rF_rule {rc : Nat} {wy pt : Nat → Int32} {os : Nat → List oT} {F : mj_M} (h : rF rc wy pt os F) (w p : Int32) : rF (rc + 1) (va_up wy rc w) (va_up pt rc p) (va_up os rc []) (F ++ [(100 + 10 * rc, cRu (101 + 10 * rc) w p 0), (101 + 10 * rc, cOs [none, none, none])]) := by
  have hlt : ∀ r, r < rc → va_up wy rc w r = wy r ∧ va_up pt rc p r = pt r ∧ va_up os rc [] r = os r := fun r hr => ⟨u_upN _ _ (by omega), u_upN _ _ (by omega), u_upN _ _ (by omega)⟩
  have hks : ∀ q ∈ F, q.1 < 100 + 10 * rc := by
    intro q hq
    obtain ⟨r, hr, hq⟩ := (h.2.1 q).mp hq
    have := h.1 r hr
    have := rC_key (h.1 r hr) hq
    omega
  refine ⟨fun r hr => ?_, fun q => ?_, ?_⟩
  · rcases Nat.lt_succ_iff_lt_or_eq.mp hr with hr | rfl
    · rw [(hlt r hr).2.2]
      exact h.1 r hr
    · rw [u_upS]
      exact Nat.zero_le _
  · rw [List.mem_append, h.2.1 q]
    constructor
    · rintro (⟨r, hr, hq⟩ | hq)
      · obtain ⟨e1, e2, e3⟩ := hlt r hr
        exact ⟨r, by omega, by rw [e1, e2, e3]; exact hq⟩
      · refine ⟨rc, by omega, ?_⟩
        rw [u_upS, u_upS, u_upS]
        exact hq
    · rintro ⟨r, hr, hq⟩
      rcases Nat.lt_succ_iff_lt_or_eq.mp hr with hr | rfl
      · obtain ⟨e1, e2, e3⟩ := hlt r hr
        rw [e1, e2, e3] at hq
        exact Or.inl ⟨r, hr, hq⟩
      · rw [u_upS, u_upS, u_upS] at hq
        exact Or.inr hq
  · rw [List.pairwise_append]
    refine ⟨h.2.2, ?_, fun a ha b hb => ?_⟩
    · simp only [List.pairwise_cons, List.mem_cons, List.not_mem_nil, or_false, forall_eq, List.Pairwise.nil, and_true, false_implies, implies_true]
      omega
    · have := hks a ha
      simp only [List.mem_cons, List.not_mem_nil, or_false] at hb
      rcases hb with rfl | rfl
      · show a.1 ≠ 100 + 10 * rc
        omega
      · show a.1 ≠ 101 + 10 * rc
        omega
/-- F without the cells at places a and b -/
def rCut (a b : Nat) (F : mj_M) : mj_M := F.filter (fun q => decide (q.1 ≠ a ∧ q.1 ≠ b))
theorem rF_opt {r c : Nat} {wy pt : Nat → Int32} {os : Nat → List oT} {F : mj_M} (h : rF (r + 1) wy pt os F) (hc : (os r).length = c) (hc3 : c < 3) (o : oT) : rF (r + 1) wy pt (va_up os r (os r ++ [o])) (rCut (100 + 10 * r) (101 + 10 * r) F ++ [(100 + 10 * r, cRu (101 + 10 * r) (wy r) (pt r) (c + 1)), (101 + 10 * r, cOs (olOf r (c + 1))), (102 + 10 * r + c, cOt o)]) := by
  have hlt : ∀ i, i < r → va_up os r (os r ++ [o]) i = os i := fun i hi => u_upN _ _ (by omega)
  have hlen : (os r ++ [o]).length = c + 1 := by rw [List.length_append, hc]; rfl
  have hrl := h.1 r (by omega)
  refine ⟨fun i hi => ?_, fun q => ?_, ?_⟩
  · rcases Nat.lt_succ_iff_lt_or_eq.mp hi with hi | rfl
    · rw [hlt i hi]
      exact h.1 i (by omega)
    · rw [u_upS, hlen]
      omega
  · rw [List.mem_append]
    constructor
    · rintro (hq0 | hq)
      · obtain ⟨hq1, hk⟩ := List.mem_filter.mp hq0
        have hk := of_decide_eq_true hk
        obtain ⟨i, hi, hq2⟩ := (h.2.1 q).mp hq1
        clear hq0 hq1
        rcases Nat.lt_succ_iff_lt_or_eq.mp hi with hi2 | hi2
        · exact ⟨i, hi, by rw [hlt i hi2]; exact hq2⟩
        · subst hi2
          refine ⟨i, hi, ?_⟩
          rw [u_upS, rC_mem (by rw [hlen]; omega)]
          rcases (rC_mem hrl q).mp hq2 with rfl | rfl | ⟨k, t, hk2, rfl⟩
          · exact absurd rfl hk.1
          · exact absurd rfl hk.2
          · refine Or.inr (Or.inr ⟨k, t, ?_, rfl⟩)
            rw [List.getElem?_append_left (List.getElem?_eq_some_iff.mp hk2).1]
            exact hk2
      · refine ⟨r, by omega, ?_⟩
        rw [u_upS, rC_mem (by rw [hlen]; omega), hlen]
        simp only [List.mem_cons, List.not_mem_nil, or_false] at hq
        rcases hq with rfl | rfl | rfl
        · exact Or.inl rfl
        · exact Or.inr (Or.inl rfl)
        · refine Or.inr (Or.inr ⟨c, o, ?_, rfl⟩)
          rw [List.getElem?_append_right (by omega), hc, Nat.sub_self]
          rfl
    · rintro ⟨i, hi, hq⟩
      rcases Nat.lt_succ_iff_lt_or_eq.mp hi with hi2 | rfl
      · rw [hlt i hi2] at hq
        have hk := rC_key (h.1 i hi) hq
        have := h.1 i hi
        refine Or.inl (List.mem_filter.mpr ⟨(h.2.1 q).mpr ⟨i, hi, hq⟩, decide_eq_true ⟨by omega, by omega⟩⟩)
      · rw [u_upS, rC_mem (by rw [hlen]; omega), hlen] at hq
        rcases hq with rfl | rfl | ⟨k, t, hk2, rfl⟩
        · exact Or.inr List.mem_cons_self
        · exact Or.inr (List.mem_cons_of_mem _ List.mem_cons_self)
        · by_cases hkc : k < c
          · rw [List.getElem?_append_left (by omega)] at hk2
            refine Or.inl (List.mem_filter.mpr ⟨(h.2.1 _).mpr ⟨i, hi, (rC_mem hrl _).mpr (Or.inr (Or.inr ⟨k, t, hk2, rfl⟩))⟩, decide_eq_true ⟨?_, ?_⟩⟩)
            · show 102 + 10 * i + k ≠ _
              omega
            · show 102 + 10 * i + k ≠ _
              omega
          · have hkl := (List.getElem?_eq_some_iff.mp hk2).1
            have hk3 : k = c := by omega
            subst hk3
            rw [List.getElem?_append_right (by omega), hc, Nat.sub_self] at hk2
            cases hk2
            exact Or.inr (List.mem_cons_of_mem _ (List.mem_cons_of_mem _ List.mem_cons_self))
  · rw [List.pairwise_append]
    refine ⟨h.2.2.filter _, ?_, fun a ha b hb => ?_⟩
    · simp only [List.pairwise_cons, List.mem_cons, List.not_mem_nil, or_false, forall_eq_or_imp, forall_eq, List.Pairwise.nil, and_true, false_implies, implies_true]
      omega
    · obtain ⟨ha, hk⟩ := List.mem_filter.mp ha
      have hk := of_decide_eq_true hk
      obtain ⟨i, hi, ha⟩ := (h.2.1 a).mp ha
      have hk2 := rC_key (h.1 i hi) ha
      have := h.1 i hi
      have h9 : a.1 < 102 + 10 * r + c := by
        rcases Nat.lt_succ_iff_lt_or_eq.mp hi with hi2 | rfl
        · omega
        · rw [hc] at hk2
          exact hk2.2
      simp only [List.mem_cons, List.not_mem_nil, or_false] at hb
      rcases hb with rfl | rfl | rfl
      · exact hk.1
      · exact hk.2
      · show a.1 ≠ 102 + 10 * r + c
        omega
theorem rF_zero (wy pt : Nat → Int32) (os : Nat → List oT) : rF 0 wy pt os [] := ⟨fun r hr => absurd hr (Nat.not_lt_zero r), fun q => ⟨fun h => (nomatch h), fun ⟨r, hr, _⟩ => absurd hr (Nat.not_lt_zero r)⟩, List.Pairwise.nil⟩
