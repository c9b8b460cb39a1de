/-! calls: the callee's places are renamed (ρ); what it doesn't hold stays -/
def mj_ff : List (Nat × Nat) → Nat → Nat
  | [], i => i
  | (j, v) :: l, i => bif Nat.beq j i then v else mj_ff l i
def mj_rk {β : Type} : List (Nat × Nat) → Nat → (Nat → Option β) → Option β
  | [], i, k => k i
  | (j, v) :: l, i, k => bif Nat.beq j i then k v else mj_rk l i k
theorem mj_rk_or {β : Type} (ρ : List (Nat × Nat)) (i : Nat) : (∀ k : Nat → Option β, mj_rk ρ i k = none) ∨ ∀ k : Nat → Option β, mj_rk ρ i k = k (mj_ff ρ i) := by
  induction ρ with
  | nil => exact Or.inr fun _ => rfl
  | cons q l ih =>
    obtain ⟨qi, qv⟩ := q
    by_cases h : qi = i
    · subst h
      exact Or.inr fun k => by simp only [mj_rk, mj_ff, mj_bq, cond_true]
    · rcases ih with ih | ih
      · exact Or.inl fun k => by rw [← ih k]; simp only [mj_rk, mj_bn h, cond_false]
      · exact Or.inr fun k => by
          have h2 : mj_ff ((qi, qv) :: l) i = mj_ff l i := by simp only [mj_ff, mj_bn h, cond_false]
          rw [h2, ← ih k]
          simp only [mj_rk, mj_bn h, cond_false]
def mj_rv {β : Type} (ρ : List (Nat × Nat)) (v : Value) (k : Value → Option β) : Option β := match v with
  | .ref a => mj_rk ρ a (fun b => k (.ref b))
  | .int x => k (.int x)
  | .long x => k (.long x)
  | .null => k .null
  | _ => none
theorem mj_rv_or {β : Type} (ρ : List (Nat × Nat)) (v : Value) : (∀ k : Value → Option β, mj_rv ρ v k = none) ∨ ∀ k : Value → Option β, mj_rv ρ v k = k (mj_v (mj_ff ρ) v) := by
  cases v with
  | ref a =>
    rcases mj_rk_or (β := β) ρ a with h | h
    · exact Or.inl fun k => h _
    · exact Or.inr fun k => h _
  | int x => exact Or.inr fun _ => rfl
  | long x => exact Or.inr fun _ => rfl
  | null => exact Or.inr fun _ => rfl
  | _ => exact Or.inl fun _ => rfl
def mj_rl {β : Type} (ρ : List (Nat × Nat)) : List Value → (List Value → Option β) → Option β
  | [], k => k []
  | v :: l, k => mj_rv ρ v (fun v' => mj_rl ρ l (fun l' => k (v' :: l')))
theorem mj_rl_or {β : Type} (ρ : List (Nat × Nat)) (l : List Value) : (∀ k : List Value → Option β, mj_rl ρ l k = none) ∨ ∀ k : List Value → Option β, mj_rl ρ l k = k (l.map (mj_v (mj_ff ρ))) := by
  induction l with
  | nil => exact Or.inr fun _ => rfl
  | cons v l ih =>
    rcases mj_rv_or (β := β) ρ v with h | h
    · exact Or.inl fun k => h _
    · rcases ih with ih | ih
      · exact Or.inl fun k => (h _).trans (ih _)
      · exact Or.inr fun k => (h _).trans (ih _)
def mj_ro {β : Type} (ρ : List (Nat × Nat)) : List (Option Nat) → (List (Option Nat) → Option β) → Option β
  | [], k => k []
  | none :: l, k => mj_ro ρ l (fun l' => k (none :: l'))
  | some a :: l, k => mj_rk ρ a (fun b => mj_ro ρ l (fun l' => k (some b :: l')))
theorem mj_ro_or {β : Type} (ρ : List (Nat × Nat)) (l : List (Option Nat)) : (∀ k : List (Option Nat) → Option β, mj_ro ρ l k = none) ∨ ∀ k : List (Option Nat) → Option β, mj_ro ρ l k = k (l.map (Option.map (mj_ff ρ))) := by
  induction l with
  | nil => exact Or.inr fun _ => rfl
  | cons v l ih =>
    cases v with
    | none =>
      rcases ih with ih | ih
      · exact Or.inl fun k => ih _
      · exact Or.inr fun k => ih _
    | some a =>
      rcases mj_rk_or (β := β) ρ a with h | h
      · exact Or.inl fun k => h _
      · rcases ih with ih | ih
        · exact Or.inl fun k => (h _).trans (ih _)
        · exact Or.inr fun k => (h _).trans (ih _)
/-- a cell renamed -/
def mj_cr (g : Nat → Nat) : mj_C → mj_C
  | .inl (t, n, .inl f) => .inl (t, n, .inl f)
  | .inl (t, n, .inr (.inl f)) => .inl (t, n, .inr (.inl f))
  | .inl (t, n, .inr (.inr l)) => .inl (t, n, .inr (.inr (l.map (Option.map g))))
  | .inr (c, fs) => .inr (c, fs.map (mj_v g))
def mj_wr (g : Nat → Nat) (w : mj_M) : mj_M := w.map (fun q => (g q.1, mj_cr g q.2))
def mj_rc {β : Type} (ρ : List (Nat × Nat)) (e : mj_C) (k : mj_C → Option β) : Option β := match e with
  | .inl (t, n, .inl f) => k (.inl (t, n, .inl f))
  | .inl (t, n, .inr (.inl f)) => k (.inl (t, n, .inr (.inl f)))
  | .inl (t, n, .inr (.inr l)) => mj_ro ρ l (fun l' => k (.inl (t, n, .inr (.inr l'))))
  | .inr (c, fs) => mj_rl ρ fs (fun fs' => k (.inr (c, fs')))
theorem mj_rc_or {β : Type} (ρ : List (Nat × Nat)) (e : mj_C) : (∀ k : mj_C → Option β, mj_rc ρ e k = none) ∨ ∀ k : mj_C → Option β, mj_rc ρ e k = k (mj_cr (mj_ff ρ) e) := by
  rcases e with ⟨t, n, f | f | f⟩ | ⟨c, fs⟩
  · exact Or.inr fun _ => rfl
  · exact Or.inr fun _ => rfl
  · rcases mj_ro_or (β := β) ρ f with h | h
    · exact Or.inl fun k => h _
    · exact Or.inr fun k => h _
  · rcases mj_rl_or (β := β) ρ fs with h | h
    · exact Or.inl fun k => h _
    · exact Or.inr fun k => h _
def mj_rw {β : Type} (ρ : List (Nat × Nat)) : mj_M → (mj_M → Option β) → Option β
  | [], k => k []
  | (j, d) :: w, k => mj_rk ρ j (fun i => mj_rc ρ d (fun e => mj_rw ρ w (fun w' => k ((i, e) :: w'))))
theorem mj_rw_or {β : Type} (ρ : List (Nat × Nat)) (w : mj_M) : (∀ k : mj_M → Option β, mj_rw ρ w k = none) ∨ ∀ k : mj_M → Option β, mj_rw ρ w k = k (mj_wr (mj_ff ρ) w) := by
  induction w with
  | nil => exact Or.inr fun _ => rfl
  | cons q w ih =>
    obtain ⟨qi, qd⟩ := q
    rcases mj_rk_or (β := β) ρ qi with h | h
    · exact Or.inl fun k => h _
    · rcases mj_rc_or (β := β) ρ qd with h2 | h2
      · exact Or.inl fun k => (h _).trans (h2 _)
      · rcases ih with ih | ih
        · exact Or.inl fun k => (h _).trans ((h2 _).trans (ih _))
        · exact Or.inr fun k => (h _).trans ((h2 _).trans (ih _))
theorem mj_rw_eq {ρ : List (Nat × Nat)} {w w' : mj_M} (h : mj_rw ρ w some = some w') : mj_wr (mj_ff ρ) w = w' := by
  rcases mj_rw_or (β := mj_M) ρ w with h1 | h1
  · rw [h1] at h
    cases h
  · rw [h1] at h
    exact Option.some.inj h
theorem mj_ff0 : mj_ff [] = id := funext fun _ => rfl
theorem mj_v_id (v : Value) : mj_v id v = v := by cases v <;> rfl
theorem mj_wr0 (w : mj_M) : mj_wr (mj_ff []) w = w := by
  rw [mj_ff0]
  unfold mj_wr
  have h : ∀ q : Nat × mj_C, (id q.1, mj_cr id q.2) = q := by
    rintro ⟨i, ⟨t, n, f | f | f⟩ | ⟨c, fs⟩⟩
    · rfl
    · rfl
    · show (i, (Sum.inl (t, n, .inr (.inr (f.map (Option.map id)))) : mj_C)) = _
      rw [Option.map_id, List.map_id]
    · show (i, (Sum.inr (c, fs.map (mj_v id)) : mj_C)) = _
      rw [show (mj_v id) = id from funext mj_v_id, List.map_id]
  rw [show (fun q : Nat × mj_C => (id q.1, mj_cr id q.2)) = id from funext h, List.map_id]
theorem mj_v_v (ad g : Nat → Nat) (v : Value) : mj_v ad (mj_v g v) = mj_v (fun q => ad (g q)) v := by cases v <;> rfl
theorem mj_e_cr (ad g : Nat → Nat) (cA : Nat → ClassId) (e : mj_C) : mj_e ad cA (mj_cr g e) = mj_e (fun q => ad (g q)) cA e := by
  rcases e with ⟨t, n, f | f | f⟩ | ⟨c, fs⟩
  · rfl
  · rfl
  · show (Sum.inl (cA t, n, .inr (.inr (.inr (.inr (fun j => ((f.map (Option.map g)).getD j none).map ad))))) : va_E) = .inl (cA t, n, .inr (.inr (.inr (.inr (fun j => (f.getD j none).map (fun q => ad (g q)))))))
    have hfun : (fun j => ((f.map (Option.map g)).getD j none).map ad) = (fun j => (f.getD j none).map (fun q => ad (g q))) := by
      funext j
      simp only [List.getD_eq_getElem?_getD, List.getElem?_map]
      cases f[j]? with
      | none => rfl
      | some o => cases o <;> rfl
    rw [hfun]
  · show (Sum.inr (c, (fs.map (mj_v g)).map (mj_v ad)) : va_E) = .inr (c, fs.map (mj_v (fun q => ad (g q))))
    rw [List.map_map]
    congr 2
    apply List.map_congr_left
    intro v _
    exact mj_v_v ad g v
theorem mj_w_wr (ad g : Nat → Nat) (cA : Nat → ClassId) (w : mj_M) : mj_w ad cA (mj_wr g w) = mj_w (fun q => ad (g q)) cA w := by
  unfold mj_w mj_wr
  rw [List.map_map]
  apply List.map_congr_left
  intro q _
  show (ad (g q.1), mj_e ad cA (mj_cr g q.2)) = _
  rw [mj_e_cr]
/-- the callee's cells among the caller's -/
def mj_sl {β : Type} (w : mj_M) : List Nat → (mj_M → Option β) → Option β
  | [], k => k []
  | i :: is, k => mj_lk w i (fun e => mj_sl w is (fun l => k ((i, e) :: l)))
theorem mj_sl_or {β : Type} (w : mj_M) (is : List Nat) : (∀ k : mj_M → Option β, mj_sl w is k = none) ∨ ∃ l : mj_M, (∀ k : mj_M → Option β, mj_sl w is k = k l) ∧ ∀ q ∈ l, q ∈ w := by
  induction is with
  | nil => exact Or.inr ⟨[], fun _ => rfl, fun q h => by cases h⟩
  | cons i is ih =>
    rcases mj_lk_or (β := β) w i with h | ⟨v, q0, h, hq⟩
    · exact Or.inl fun k => h _
    · rcases ih with ih | ⟨l, ih, hl⟩
      · exact Or.inl fun k => (h _).trans (ih _)
      · refine Or.inr ⟨(i, v) :: l, fun k => (h _).trans (ih _), fun q hq2 => ?_⟩
        rcases List.mem_cons.mp hq2 with rfl | h3
        · exact List.mem_of_getElem? hq
        · exact hl q h3
def mj_ct (ρ : List (Nat × Nat)) (wc w : mj_M) : Option (mj_M × mj_M) := mj_rw ρ wc (fun w1 => mj_sl w (w1.map Prod.fst) (fun w3 => some (w1, w3)))
theorem mj_ct_in {ρ : List (Nat × Nat)} {wc w wx : mj_M} (h : mj_ct ρ wc w = some (wx, wx)) : wx = mj_wr (mj_ff ρ) wc ∧ ∀ q ∈ mj_wr (mj_ff ρ) wc, q ∈ w := by
  unfold mj_ct at h
  rcases mj_rw_or (β := mj_M × mj_M) ρ wc with h1 | h1
  · rw [h1] at h; cases h
  · rw [h1] at h
    rcases mj_sl_or (β := mj_M × mj_M) w ((mj_wr (mj_ff ρ) wc).map Prod.fst) with h2 | ⟨l, h2, h3⟩
    · rw [h2] at h; cases h
    · rw [h2] at h
      obtain ⟨h4, h5⟩ := Prod.mk.inj (Option.some.inj h)
      refine ⟨h4.symm, fun q hq => h3 q ?_⟩
      rw [h5, ← h4]
      exact hq
/-- what came back, laid over what was there -/
def mj_tk {β : Type} : mj_M → Nat → (mj_C → mj_M → Option β) → Option β → Option β
  | [], _, _, nf => nf
  | (j, v) :: l, i, k, nf => bif Nat.beq j i then k v l else mj_tk l i (fun e l' => k e ((j, v) :: l')) nf
theorem mj_tk_or {β : Type} (w1 : mj_M) (i : Nat) : (∃ (e : mj_C) (w2 : mj_M), (i, e) ∈ w1 ∧ (∀ (k : mj_C → mj_M → Option β) (nf : Option β), mj_tk w1 i k nf = k e w2) ∧ (∀ q ∈ w2, q ∈ w1) ∧ ∀ q ∈ w1, q ∈ w2 ∨ q.1 = i) ∨
    ((∀ (k : mj_C → mj_M → Option β) (nf : Option β), mj_tk w1 i k nf = nf) ∧ ∀ q ∈ w1, q.1 ≠ i) := by
  induction w1 with
  | nil => exact Or.inr ⟨fun _ _ => rfl, fun q h => by cases h⟩
  | cons z l ih =>
    obtain ⟨j, v⟩ := z
    by_cases hj : j = i
    · subst hj
      refine Or.inl ⟨v, l, List.mem_cons_self, fun k nf => by simp only [mj_tk, mj_bq, cond_true], fun q h => List.mem_cons_of_mem _ h, fun q h => ?_⟩
      rcases List.mem_cons.mp h with rfl | h
      · exact Or.inr rfl
      · exact Or.inl h
    · rcases ih with ⟨e, w2, h1, h2, h3, h4⟩ | ⟨h1, h2⟩
      · refine Or.inl ⟨e, (j, v) :: w2, List.mem_cons_of_mem _ h1, fun k nf => by simp only [mj_tk, mj_bn hj, cond_false, h2], fun q h => ?_, fun q h => ?_⟩
        · rcases List.mem_cons.mp h with rfl | h
          · exact List.mem_cons_self
          · exact List.mem_cons_of_mem _ (h3 q h)
        · rcases List.mem_cons.mp h with rfl | h
          · exact Or.inl List.mem_cons_self
          · rcases h4 q h with h | h
            · exact Or.inl (List.mem_cons_of_mem _ h)
            · exact Or.inr h
      · refine Or.inr ⟨fun k nf => by simp only [mj_tk, mj_bn hj, cond_false, h1], fun q h => ?_⟩
        rcases List.mem_cons.mp h with rfl | h
        · exact hj
        · exact h2 q h
def mj_ul {β : Type} : Nat → mj_M → mj_M → (mj_M → Option β) → Option β
  | 0, _, _, _ => none
  | n + 1, w1, w, k => match w1 with
    | [] => k w
    | z :: w1' => match w with
      | [] => k []
      | (i, d) :: w' => mj_tk (z :: w1') i (fun e w2 => mj_ul n w2 w' (fun l => k ((i, e) :: l))) (mj_ul n (z :: w1') w' (fun l => k ((i, d) :: l)))
abbrev mj_pw (w : mj_M) : Prop := w.Pairwise (fun a b => a.1 ≠ b.1)
theorem mj_ul_or {β : Type} : ∀ (n : Nat) (w1 w : mj_M), (∀ k : mj_M → Option β, mj_ul n w1 w k = none) ∨ ∃ w2 : mj_M, (∀ k : mj_M → Option β, mj_ul n w1 w k = k w2) ∧ w2.map Prod.fst = w.map Prod.fst ∧ (mj_pw w → ∀ q ∈ w2, q ∈ w1 ∨ (q ∈ w ∧ ∀ z ∈ w1, z.1 ≠ q.1)) := by
  intro n
  induction n with
  | zero => exact fun _ _ => Or.inl fun _ => rfl
  | succ n ih =>
    intro w1 w
    cases w1 with
    | nil => exact Or.inr ⟨w, fun _ => rfl, rfl, fun _ q hq => Or.inr ⟨hq, fun z hz => by cases hz⟩⟩
    | cons z w1 =>
      cases w with
      | nil => exact Or.inr ⟨[], fun _ => rfl, rfl, fun _ q hq => by cases hq⟩
      | cons q w =>
        obtain ⟨i, d⟩ := q
        rcases mj_tk_or (β := β) (z :: w1) i with ⟨e, wr, h1, h2, h8, h9⟩ | ⟨h1, h2⟩
        · rcases ih wr w with h3 | ⟨w2, h3, h4, h5⟩
          · exact Or.inl fun k => by
              show mj_tk (z :: w1) i (fun e w2 => mj_ul n w2 w (fun l => k ((i, e) :: l))) (mj_ul n (z :: w1) w (fun l => k ((i, d) :: l))) = none
              rw [h2]
              exact h3 _
          · refine Or.inr ⟨(i, e) :: w2, fun k => by
              show mj_tk (z :: w1) i (fun e w2 => mj_ul n w2 w (fun l => k ((i, e) :: l))) (mj_ul n (z :: w1) w (fun l => k ((i, d) :: l))) = k ((i, e) :: w2)
              rw [h2]
              exact h3 _, by rw [List.map_cons, List.map_cons, h4], fun hpw x hx => ?_⟩
            obtain ⟨hp1, hp2⟩ := List.pairwise_cons.mp hpw
            rcases List.mem_cons.mp hx with rfl | hx
            · exact Or.inl h1
            · rcases h5 hp2 x hx with h | ⟨h, h6⟩
              · exact Or.inl (h8 x h)
              · refine Or.inr ⟨List.mem_cons_of_mem _ h, fun y hy => ?_⟩
                rcases h9 y hy with h7 | h7
                · exact h6 y h7
                · rw [h7]
                  exact hp1 x h
        · rcases ih (z :: w1) w with h3 | ⟨w2, h3, h4, h5⟩
          · exact Or.inl fun k => by
              show mj_tk (z :: w1) i (fun e w2 => mj_ul n w2 w (fun l => k ((i, e) :: l))) (mj_ul n (z :: w1) w (fun l => k ((i, d) :: l))) = none
              rw [h1]
              exact h3 _
          · refine Or.inr ⟨(i, d) :: w2, fun k => by
              show mj_tk (z :: w1) i (fun e w2 => mj_ul n w2 w (fun l => k ((i, e) :: l))) (mj_ul n (z :: w1) w (fun l => k ((i, d) :: l))) = k ((i, d) :: w2)
              rw [h1]
              exact h3 _, by rw [List.map_cons, List.map_cons, h4], fun hpw x hx => ?_⟩
            obtain ⟨hp1, hp2⟩ := List.pairwise_cons.mp hpw
            rcases List.mem_cons.mp hx with rfl | hx
            · exact Or.inr ⟨List.mem_cons_self, h2⟩
            · rcases h5 hp2 x hx with h | ⟨h, h6⟩
              · exact Or.inl h
              · exact Or.inr ⟨List.mem_cons_of_mem _ h, h6⟩
theorem mj_D_pw {A : Nat → Prop} {ad : Nat → Nat} {cA : Nat → ClassId} {w : mj_M} (hD : va_D A (mj_w ad cA w)) : mj_pw w := by
  refine List.pairwise_iff_getElem.mpr ?_
  intro i j hi hj hij he
  have h1 : (mj_w ad cA w)[i]? = some (ad w[i].1, mj_e ad cA w[i].2) := mj_w_at (by rw [List.getElem?_eq_getElem hi])
  have h2 : (mj_w ad cA w)[j]? = some (ad w[j].1, mj_e ad cA w[j].2) := mj_w_at (by rw [List.getElem?_eq_getElem hj])
  have h3 := hD.1 i j _ _ h1 h2 (by show ad w[i].1 = ad w[j].1; rw [he])
  omega
theorem mj_D_keys {A : Nat → Prop} {ad : Nat → Nat} {cA : Nat → ClassId} {w w2 : mj_M} (h : w2.map Prod.fst = w.map Prod.fst) (hD : va_D A (mj_w ad cA w)) : va_D A (mj_w ad cA w2) := by
  have hk : ∀ (k : Nat) (q : Nat × va_E), (mj_w ad cA w2)[k]? = some q → ∃ q' : Nat × va_E, (mj_w ad cA w)[k]? = some q' ∧ q'.1 = q.1 := by
    intro k q hq
    have h1 : (w2.map Prod.fst)[k]? = (w.map Prod.fst)[k]? := by rw [h]
    rw [List.getElem?_map, List.getElem?_map] at h1
    unfold mj_w at hq ⊢
    rw [List.getElem?_map] at hq
    cases h2 : w2[k]? with
    | none => rw [h2] at hq; cases hq
    | some z =>
      rw [h2] at hq h1
      cases h3 : w[k]? with
      | none => rw [h3] at h1; cases h1
      | some y =>
        rw [h3] at h1
        have h4 : z.1 = y.1 := Option.some.inj h1
        have h5 : (ad z.1, mj_e ad cA z.2) = q := Option.some.inj hq
        refine ⟨(ad y.1, mj_e ad cA y.2), by rw [List.getElem?_map, h3]; rfl, ?_⟩
        rw [← h5, h4]
  refine ⟨fun i j p q hp hq hpq => ?_, fun k q hq => ?_⟩
  · obtain ⟨p', h1, h2⟩ := hk i p hp
    obtain ⟨q', h3, h4⟩ := hk j q hq
    exact hD.1 i j p' q' h1 h3 (by rw [h2, h4, hpq])
  · obtain ⟨q', h1, h2⟩ := hk k q hq
    rw [← h2]
    exact hD.2 k q' h1
theorem mj_in_at {ad : Nat → Nat} {cA : Nat → ClassId} {w : mj_M} {q : Nat × mj_C} (h : q ∈ w) : ∃ k : Nat, (mj_w ad cA w)[k]? = some (ad q.1, mj_e ad cA q.2) ∧ w[k]? = some q := by
  obtain ⟨k, hk⟩ := List.getElem?_of_mem h
  exact ⟨k, by simp [mj_w, List.getElem?_map, hk], hk⟩
theorem mj_join0 {A : Nat → Prop} {D : va_G} {cl : List vw_C} {ad : Nat → Nat} {cA : Nat → ClassId} {w w1c w1 w2 : mj_M} {H H1 : Heap} (hP : va_P D cl (mj_w ad cA w) H) (hD : va_D A (mj_w ad cA w)) (hin : ∀ q ∈ w1c, q ∈ w) (hkeys : w1.map Prod.fst = w1c.map Prod.fst) (h2 : ∀ q ∈ w2, q ∈ w1 ∨ (q ∈ w ∧ ∀ z ∈ w1, z.1 ≠ q.1))
    (hP1 : va_P D cl (mj_w ad cA w1) H1) (hk : ∀ q : Nat, q < H.size → ¬ va_A (mj_w ad cA w1c) H.size q → H1[q]? = H[q]?) : va_P D cl (mj_w ad cA w2) H1 := by
  intro k q hq
  unfold mj_w at hq
  rw [List.getElem?_map] at hq
  cases hz : w2[k]? with
  | none => rw [hz] at hq; cases hq
  | some z =>
    rw [hz] at hq
    have hq : (ad z.1, mj_e ad cA z.2) = q := Option.some.inj hq
    subst hq
    rcases h2 z (List.mem_of_getElem? hz) with h | ⟨h, hne⟩
    · obtain ⟨k1, hk1, -⟩ := mj_in_at (ad := ad) (cA := cA) h
      exact hP1 k1 _ hk1
    · obtain ⟨kz, hkz, hwz⟩ := mj_in_at (ad := ad) (cA := cA) h
      have hat := hP kz _ hkz
      refine hat.kept (hk _ hat.lt ?_)
      rintro (⟨ky, ey, hy⟩ | hy)
      · unfold mj_w at hy
        rw [List.getElem?_map] at hy
        cases hyy : w1c[ky]? with
        | none => rw [hyy] at hy; cases hy
        | some y =>
          rw [hyy] at hy
          have hy : (ad y.1, mj_e ad cA y.2) = (ad z.1, ey) := Option.some.inj hy
          have hy1 : ad y.1 = ad z.1 := (Prod.mk.inj hy).1
          have hym := List.mem_of_getElem? hyy
          obtain ⟨kyw, hkyw, hwy⟩ := mj_in_at (ad := ad) (cA := cA) (hin y hym)
          have := hD.1 kyw kz _ _ hkyw hkz hy1
          subst this
          have hyz : y = z := Option.some.inj (hwy.symm.trans hwz)
          subst hyz
          have hmem : y.1 ∈ w1.map Prod.fst := by
            rw [hkeys]
            exact List.mem_map.mpr ⟨y, hym, rfl⟩
          obtain ⟨x, hx, hx1⟩ := List.mem_map.mp hmem
          exact hne x hx hx1
      · exact absurd hat.lt (Nat.not_lt.mpr hy)
def mj_app {β : Type} : List Value → List Value → (List Value → Option β) → Option β
  | [], r, k => k r
  | v :: l, r, k => mj_app l r (fun l' => k (v :: l'))
theorem mj_app_eq {β : Type} (l r : List Value) (k : List Value → Option β) : mj_app l r k = k (l ++ r) := by
  induction l generalizing k with
  | nil => rfl
  | cons v l ih => simp only [mj_app, ih, List.cons_append]
def mj_fin (ρ : List (Nat × Nat)) (r : Option Value) (w' w : mj_M) (rest : List Value) : Option (List Value × mj_M) :=
  mj_rl ρ r.toList (fun rs => mj_rw ρ w' (fun w1 => mj_ul 200 w1 w (fun w2 => mj_app rs rest (fun st2 => some (st2, w2)))))
theorem mj_fin_eq {ρ : List (Nat × Nat)} {r : Option Value} {w' w : mj_M} {rest st2 : List Value} {w2 : mj_M} (h : mj_fin ρ r w' w rest = some (st2, w2)) (hpw : mj_pw w) :
    st2 = r.toList.map (mj_v (mj_ff ρ)) ++ rest ∧ w2.map Prod.fst = w.map Prod.fst ∧ ∀ q ∈ w2, q ∈ mj_wr (mj_ff ρ) w' ∨ (q ∈ w ∧ ∀ z ∈ mj_wr (mj_ff ρ) w', z.1 ≠ q.1) := by
  unfold mj_fin at h
  rcases mj_rl_or (β := List Value × mj_M) ρ r.toList with h1 | h1
  · rw [h1] at h
    cases h
  · rw [h1] at h
    rcases mj_rw_or (β := List Value × mj_M) ρ w' with h2 | h2
    · rw [h2] at h
      cases h
    · rw [h2] at h
      rcases mj_ul_or (β := List Value × mj_M) 200 (mj_wr (mj_ff ρ) w') w with h3 | ⟨w3, h3, h4, h5⟩
      · rw [h3] at h
        cases h
      · rw [h3, mj_app_eq] at h
        have h := Option.some.inj h
        obtain ⟨h6, h7⟩ := Prod.mk.inj h
        subst h6 h7
        exact ⟨rfl, h4, h5 hpw⟩
/-- behind a call that makes nothing -/
theorem mj_afterP {p : Program} {l : Launch} {e : Env} {R : Room} {s : State} {m : MethodId} {args : Array Value} {below : List Frame} {meth : Method} {c : Code} {H : Heap} {locs : List Loc} {cells slots mcc msc pc : Nat} {Q : State → Prop} {ls : Array Slot} {rest st0 : List Value} {a : Array Value} {A : Nat → Prop} {G : mj_G} {D : va_G} {cA : Nat → ClassId} {ad : Nat → Nat} {ρ : List (Nat × Nat)} {w wc : mj_M} {postc : mj_R}
    (hr : va_Run p l e R s m args below meth c H locs cells slots mcc msc (F0 m pc ls st0) (rest.map (mj_v ad)) (mj_Q G D cA (va_A (mj_w (fun q => ad (mj_ff ρ q)) cA wc) H.size) (fun q => ad (mj_ff ρ q)) (fun _ => True) postc a) (va_A (mj_w (fun q => ad (mj_ff ρ q)) cA wc) H.size))
    (hS : va_S A s.heap H locs) (hP : va_P D G.1 (mj_w ad cA w) H) (hD : va_D A (mj_w ad cA w)) (hA : ∀ q, s.heap.size ≤ q → A q) (hin : ∀ q ∈ mj_wr (mj_ff ρ) wc, q ∈ w)
    (kk : ∀ (r : Option Value) (w' : mj_M), postc r w' → mj_pw w → ∃ (st2 : List Value) (w2 : mj_M), (st2 = r.toList.map (mj_v (mj_ff ρ)) ++ rest ∧ w2.map Prod.fst = w.map Prod.fst ∧ ∀ q ∈ w2, q ∈ mj_wr (mj_ff ρ) w' ∨ (q ∈ w ∧ ∀ z ∈ mj_wr (mj_ff ρ) w', z.1 ≠ q.1)) ∧ w'.map Prod.fst = wc.map Prod.fst ∧
      ∀ (H1 : Heap) (locs1 : List Loc), va_P D G.1 (mj_w ad cA w2) H1 → va_D A (mj_w ad cA w2) → va_S A s.heap H1 locs1 → W p l e R s m args below meth c H1 locs1 (cells + mcc) (slots + msc) Q (F0 m (pc + 3) ls (st2.map (mj_v ad)))) : W p l e R s m args below meth c H locs cells slots Q (F0 m pc ls st0) := by
  have hw1 := mj_w_wr ad (mj_ff ρ) cA wc
  have hAA : ∀ q, va_A (mj_w (fun q => ad (mj_ff ρ q)) cA wc) H.size q → A q := by
    rintro q (⟨k, e1, hk⟩ | hk)
    · rw [← hw1] at hk
      unfold mj_w at hk
      rw [List.getElem?_map] at hk
      cases hz : (mj_wr (mj_ff ρ) wc)[k]? with
      | none => rw [hz] at hk; cases hk
      | some z =>
        rw [hz] at hk
        have hk : (ad z.1, mj_e ad cA z.2) = (q, e1) := Option.some.inj hk
        obtain ⟨kz, hkz, -⟩ := mj_in_at (ad := ad) (cA := cA) (hin z (List.mem_of_getElem? hz))
        have := hD.2 kz _ hkz
        rw [← (Prod.mk.inj hk).1]
        exact this
    · exact hA q (Nat.le_trans hS.1 hk)
  intro T hT X
  obtain ⟨v, st₀, t, T', L, h0, X', hL, e1, e2, ⟨⟨r, w', ad', had, hpost, hoc, hP1, -, -⟩, hz, hk⟩, st⟩ := hr T hT X
  have hade : ad' = fun q => ad (mj_ff ρ q) := funext fun q => had q trivial
  subst hade
  injection hoc with hoc
  subst hoc
  rw [h0] at hz hk
  obtain ⟨st2, w2, ⟨hst2, hkw, h2⟩, hkeys, kk⟩ := kk r w' hpost (mj_D_pw hD)
  have hP2 : va_P D G.1 (mj_w ad cA w2) T'.heap := by
    refine mj_join0 hP hD hin (w1 := mj_wr (mj_ff ρ) w') ?_ h2 ?_ ?_
    · unfold mj_wr
      rw [List.map_map, List.map_map]
      have hcomp : (Prod.fst ∘ fun q : Nat × mj_C => (mj_ff ρ q.1, mj_cr (mj_ff ρ) q.2)) = (mj_ff ρ) ∘ Prod.fst := rfl
      rw [hcomp, ← List.map_map, ← List.map_map, hkeys]
    · rw [mj_w_wr, e1]
      exact hP1
    · intro q h1 h3
      rw [hw1] at h3
      rw [e1]
      exact hk q h1 h3
  obtain ⟨t2, a1, b1⟩ := kk T'.heap (locs ++ L) hP2 (mj_D_keys hkw hD)
    ⟨Nat.le_trans hS.1 (by rw [e1]; exact hz), fun q h1 h3 => by rw [e1, hk q (Nat.lt_of_lt_of_le h1 hS.1) (fun z => h3 (hAA q z))]; exact hS.2.1 q h1 h3, fun q hq => by
      rcases List.mem_append.mp hq with h | h
      · exact hS.2.2 q h
      · exact hAA _ (hL q h)⟩ T' rfl X'
  refine ⟨t2, st t2 ?_, b1⟩
  have hstk : (r.map (mj_v fun q => ad (mj_ff ρ q))).toList ++ rest.map (mj_v ad) = st2.map (mj_v ad) := by
    rw [hst2, List.map_append]
    congr 1
    cases r with
    | none => rfl
    | some x =>
      show [mj_v (fun q => ad (mj_ff ρ q)) x] = [mj_v ad (mj_v (mj_ff ρ) x)]
      rw [mj_v_v]
  rw [hstk]
  exact a1
/-- what the tables must say of a method that is called -/
def mj_VW (G : mj_G) (Y : mj_N) (n : Nat) : Prop := Cond.instanceMethod Y.1 ∈ G.2.1 ∧ Cond.selects Y.1.cls Y.1 Y.1 ∈ G.2.1 ∧ Cond.initialized Y.1.cls ∈ G.2.1 ∧ Cond.code Y.1 Y.2.1 Y.2.2.1 Y.2.2.2 ∈ G.2.1 ∧ Y.1.cls ≠ "java/lang/invoke/MethodHandle" ∧ Y.1.cls ≠ "java/lang/invoke/VarHandle" ∧ (parseMethodDescriptor Y.1.desc).map (fun d => d.parameters.length) = some n
def mj_SW (G : mj_G) (Y : mj_N) (n : Nat) : Prop := Cond.static Y.1 ∈ G.2.1 ∧ Cond.initialized Y.1.cls ∈ G.2.1 ∧ Cond.code Y.1 Y.2.1 Y.2.2.1 Y.2.2.2 ∈ G.2.1 ∧ Y.1.cls ≠ "java/lang/invoke/MethodHandle" ∧ Y.1.cls ≠ "java/lang/invoke/VarHandle" ∧ (parseMethodDescriptor Y.1.desc).map (fun d => d.parameters.length) = some n
theorem mj_pre_blind {G : mj_G} {D : va_G} {cA : Nat → ClassId} {av : List Value} {sz : Nat} {W0 : va_W} : FrameBlind (va_Pc av (fun U => U.heap.size = sz ∧ va_P D G.1 W0 U.heap ∧ va_K D G.1 (mj_tys cA G.2.2) U ∧ va_D (fun _ => True) W0)) := by
  intro a U g mk q
  obtain ⟨q0, q1, qP, qK, qD⟩ := q
  exact ⟨q0, q1, qP, va_K.moved (u := U) (U := U.calling g mk a) (Vm.Alike.refl U.vm) qK, qD⟩
theorem mj_P_in {D : va_G} {cl : List vw_C} {ad : Nat → Nat} {cA : Nat → ClassId} {w w1 : mj_M} {H : Heap} (hP : va_P D cl (mj_w ad cA w) H) (hin : ∀ q ∈ w1, q ∈ w) : va_P D cl (mj_w ad cA w1) H := by
  intro k q hq
  unfold mj_w at hq
  rw [List.getElem?_map] at hq
  cases hz : w1[k]? with
  | none => rw [hz] at hq; cases hq
  | some z =>
    rw [hz] at hq
    have hq : (ad z.1, mj_e ad cA z.2) = q := Option.some.inj hq
    subst hq
    obtain ⟨kz, hkz, -⟩ := mj_in_at (ad := ad) (cA := cA) (hin z (List.mem_of_getElem? hz))
    exact hP kz _ hkz
theorem mj_D_in {A : Nat → Prop} {ad : Nat → Nat} {cA : Nat → ClassId} {w w1 : mj_M} (hD : va_D A (mj_w ad cA w)) (hin : ∀ q ∈ w1, q ∈ w) (hn : va_nd (w1.map Prod.fst) = true) : va_D A (mj_w ad cA w1) := by
  have key : ∀ (k : Nat) (q : Nat × va_E), (mj_w ad cA w1)[k]? = some q → ∃ z : Nat × mj_C, w1[k]? = some z ∧ q = (ad z.1, mj_e ad cA z.2) := by
    intro k q hq
    unfold mj_w at hq
    rw [List.getElem?_map] at hq
    cases hz : w1[k]? with
    | none => rw [hz] at hq; cases hq
    | some z =>
      rw [hz] at hq
      exact ⟨z, rfl, (Option.some.inj hq).symm⟩
  refine ⟨fun i j p q hp hq hpq => ?_, fun k q hq => ?_⟩
  · obtain ⟨y, hy, rfl⟩ := key i p hp
    obtain ⟨z, hz, rfl⟩ := key j q hq
    obtain ⟨ky, hky, hwy⟩ := mj_in_at (ad := ad) (cA := cA) (hin y (List.mem_of_getElem? hy))
    obtain ⟨kz, hkz, hwz⟩ := mj_in_at (ad := ad) (cA := cA) (hin z (List.mem_of_getElem? hz))
    have := hD.1 ky kz _ _ hky hkz hpq
    subst this
    have hyz : y = z := Option.some.inj (hwy.symm.trans hwz)
    subst hyz
    exact va_nd_inj _ hn i j y.1 (by rw [List.getElem?_map, hy]; rfl) (by rw [List.getElem?_map, hz]; rfl)
  · obtain ⟨z, hz, rfl⟩ := key k q hq
    obtain ⟨kz, hkz, -⟩ := mj_in_at (ad := ad) (cA := cA) (hin z (List.mem_of_getElem? hz))
    exact hD.2 kz _ hkz
theorem mj_rl_eq {ρ : List (Nat × Nat)} {l l2 : List Value} (h : mj_rl ρ l some = some l2) : l2 = l.map (mj_v (mj_ff ρ)) := by
  rcases mj_rl_or (β := List Value) ρ l with h1 | h1
  · rw [h1] at h; cases h
  · rw [h1] at h; exact (Option.some.inj h).symm
theorem mj_gin {G : mj_G} (hg : GoodIn G.2.1 G.2.1) {L : List Cond} (h : ∀ w ∈ L, w ∈ G.2.1) : GoodIn G.2.1 L := fun w hw => ⟨h w hw, (hg w (h w hw)).2⟩
theorem mj_k {G : mj_G} {X : mj_X} {cells slots pc : Nat} {lv : mj_L} {ρ : List (Nat × Nat)} {r : Option Value} {w' wc w w2 : mj_M} {rest st2 : List Value} (h1 : mj_fin ρ r w' w rest = some (st2, w2)) (h2 : w'.map Prod.fst = wc.map Prod.fst) (h3 : mj_W G X cells slots pc lv st2 w2) :
    ∃ (st2 : List Value) (w2 : mj_M), mj_fin ρ r w' w rest = some (st2, w2) ∧ w'.map Prod.fst = wc.map Prod.fst ∧ mj_W G X cells slots pc lv st2 w2 := ⟨st2, w2, h1, h2, h3⟩
section MJC
variable {G : mj_G} {X : mj_X} {l : Launch} {D : va_G} {cA : Nat → ClassId} {Y : mj_N} {fr lo mc ms : Nat} {kp : Nat → Prop} {post : mj_R} {cells slots pc : Nat} {lv : mj_L} {st : List Value} {w : mj_M}
theorem mj_callV0 (h : mj_E G X l D cA Y fr lo mc ms kp post) (hg : GoodIn G.2.1 G.2.1) {Yc : mj_N} {frc loc mcc msc n index : Nat} {As : List Value} {a0 : Nat} {wc : mj_M} {postc : mj_R} (hev : mj_Ev G l D cA Yc frc loc mcc msc (.ref a0 :: As) wc (fun _ => True) postc) (hvw : mj_VW G Yc n)
    (hlink : Cond.methodLink Y.1.cls index Yc.1 ∈ G.2.1) (hd : decode Y.2.1 pc = .ok (.invokevirtual index, 3)) (hn : As.length = n) (hroom : frc + 1 ≤ fr ∧ 8 + (Yc.2.2.1 + 11) + loc ≤ lo) (hcells : cells + mcc ≤ mc ∧ slots + msc ≤ ms)
    (ρ : List (Nat × Nat)) {rest : List Value} {ci : Nat} {fs : List Value} {T : u_T} {N : Nat} (hrec : mj_lk wc a0 some = some (.inr (ci, fs))) (hci : G.1[ci]? = some (Yc.1.cls, T, N))
    (hin : ∀ q ∈ mj_wr (mj_ff ρ) wc, q ∈ w) (hnd : va_nd ((mj_wr (mj_ff ρ) wc).map Prod.fst) = true) (hst : st = ((Value.ref a0 :: As).map (mj_v (mj_ff ρ))).reverse ++ rest) (hrr : (rest.map fun v => v.category).sum ≤ 8)
    (kk : ∀ (r : Option Value) (w' : mj_M), postc r w' → mj_pw w → ∃ (st2 : List Value) (w2 : mj_M), (st2 = r.toList.map (mj_v (mj_ff ρ)) ++ rest ∧ w2.map Prod.fst = w.map Prod.fst ∧ ∀ q ∈ w2, q ∈ mj_wr (mj_ff ρ) w' ∨ (q ∈ w ∧ ∀ z ∈ mj_wr (mj_ff ρ) w', z.1 ≠ q.1)) ∧ w'.map Prod.fst = wc.map Prod.fst ∧ mj_W G X (cells + mcc) (slots + msc) (pc + 3) lv st2 w2) : mj_W G X cells slots pc lv st w := by
  obtain ⟨p, l', e, R, s, m, args, below, meth, c, Q, D', cA', A, ad0, kp', nL⟩ := X
  obtain ⟨hB, rfl, rfl, rfl, rfl, hR1, hR2, hR3, hR4, hQ, hr, hlk⟩ := h
  intro ad H locs ls h0 hP hD hS hl
  obtain ⟨hv1, hv2, hv3, hv4, hv5, hv6, hv7⟩ := hvw
  have hWc := mj_w_wr ad (mj_ff ρ) cA' wc
  have hPc : va_P D' G.1 (mj_w (fun q => ad (mj_ff ρ q)) cA' wc) H := by
    rw [← hWc]
    exact mj_P_in hP hin
  have hDc : va_D (fun _ => True) (mj_w (fun q => ad (mj_ff ρ q)) cA' wc) := by
    rw [← hWc]
    exact (mj_D_in hD hin hnd).weaken (fun _ _ _ _ => trivial)
  obtain ⟨q0, hq0⟩ : ∃ q0 : Nat, wc[q0]? = some (a0, (Sum.inr (ci, fs) : mj_C)) := by
    rcases mj_lk_or (β := mj_C) wc a0 with h1 | ⟨v, q0, h1, h2⟩
    · rw [h1] at hrec; cases hrec
    · rw [h1] at hrec
      exact ⟨q0, by rw [h2, Option.some.inj hrec]⟩
  have hgood : GoodIn G.2.1 (wsV Y.1.cls index Yc.1.cls Yc.1 (Cond.code Yc.1 Yc.2.1 Yc.2.2.1 Yc.2.2.2 :: G.2.1)) := by
    refine mj_gin hg (fun x hx => ?_)
    unfold wsV at hx
    rcases List.mem_append.mp hx with hx | hx
    · simp only [List.mem_cons, List.not_mem_nil, or_false] at hx
      rcases hx with rfl | rfl | rfl | rfl
      · exact hlink
      · exact hv1
      · exact hv2
      · exact hv3
    · rcases List.mem_cons.mp hx with rfl | hx
      · exact hv4
      · exact hx
  have hrun := va_runV (C := Yc.1.cls) (b := ad (mj_ff ρ a0)) (As := As.map (mj_v fun q => ad (mj_ff ρ q))) (rest := rest.map (mj_v ad)) (g := F0 m pc ls (st.map (mj_v ad))) (cells := cells) (slots := slots) (locs := locs) (below := below) (meth := meth) (e := e) (H := H)
    ⟨hB.1, hB.2.1, hB.2.2.1, hB.2.2.2.2.1, hB.2.2.2.2.2.1⟩ (hev (fun q => ad (mj_ff ρ q)) H.size)
    (cwV (R := R) n hB.2.2.2.2.2.1 hgood rfl rfl rfl ⟨rfl, hv5, hv6, hv7⟩ ⟨by rw [hR1]; exact hroom.1, by rw [hR4]; exact hroom.2⟩)
    ⟨mj_pre_blind, va_recv hB.2.2.2.2.2.2.1 hPc hci (mj_w_at hq0), fun U hU hW => ⟨rfl, by rw [hU], by rw [hU]; exact hPc, va_K.moved hW.alike hB.2.2.2.2.2.2.1, hDc⟩⟩
    rfl (by rw [List.length_map]; exact hn) hl.1 (by
      show st.map (mj_v ad) = _
      have e9 : ((Value.ref a0 :: As).map (mj_v (mj_ff ρ))).map (mj_v ad) = (Value.ref a0 :: As).map (mj_v fun q => ad (mj_ff ρ q)) := by
        rw [List.map_map]
        exact List.map_congr_left (fun v _ => mj_v_v ad (mj_ff ρ) v)
      rw [hst, List.map_append, List.map_reverse, e9, List.map_cons, List.reverse_cons, List.append_assoc]
      rfl) (lv_room (by simpa [Function.comp_def, mj_v_cat] using hrr)) hd ⟨by rw [hR2]; exact hcells.1, by rw [hR3]; exact hcells.2⟩
  refine mj_afterP (ρ := ρ) (w := w) (wc := wc) (postc := postc) hrun hS hP hD hB.2.2.2.2.2.2.2.1 hin (fun r w' hp hpw => ?_)
  obtain ⟨st2, w2, h1, h2, k⟩ := kk r w' hp hpw
  exact ⟨st2, w2, h1, h2, fun H1 locs1 hP1 hD1 hS1 => k ad H1 locs1 ls h0 hP1 hD1 hS1 hl⟩
theorem mj_callV (h : mj_E G X l D cA Y fr lo mc ms kp post) (hg : GoodIn G.2.1 G.2.1) {Yc : mj_N} {frc loc mcc msc n index : Nat} {As : List Value} {a0 : Nat} {wc : mj_M} {postc : mj_R} (hev : mj_Ev G l D cA Yc frc loc mcc msc (.ref a0 :: As) wc (fun _ => True) postc) (hvw : mj_VW G Yc n)
    (hlink : Cond.methodLink Y.1.cls index Yc.1 ∈ G.2.1) (hd : decode Y.2.1 pc = .ok (.invokevirtual index, 3)) (hn : As.length = n) (hroom : frc + 1 ≤ fr ∧ 8 + (Yc.2.2.1 + 11) + loc ≤ lo) (hcells : cells + mcc ≤ mc ∧ slots + msc ≤ ms)
    (ρ : List (Nat × Nat)) {wx : mj_M} {rest as2 : List Value} {ci : Nat} {fs : List Value} {T : u_T} {N : Nat} (hrec : mj_lk wc a0 some = some (.inr (ci, fs))) (hci : G.1[ci]? = some (Yc.1.cls, T, N))
    (hsub : mj_ct ρ wc w = some (wx, wx)) (hnd : va_nd (wx.map Prod.fst) = true) (hargs : mj_rl ρ (.ref a0 :: As) some = some as2) (hst : st = as2.reverse ++ rest) (hrr : (rest.map fun v => v.category).sum ≤ 8)
    (kk : ∀ (r : Option Value) (w' : mj_M), postc r w' → ∃ (st2 : List Value) (w2 : mj_M), mj_fin ρ r w' w rest = some (st2, w2) ∧ w'.map Prod.fst = wc.map Prod.fst ∧ mj_W G X (cells + mcc) (slots + msc) (pc + 3) lv st2 w2) : mj_W G X cells slots pc lv st w := by
  obtain ⟨hwx, hin⟩ := mj_ct_in hsub
  rw [hwx] at hnd
  have hargs2 := mj_rl_eq hargs
  rw [hargs2] at hst
  refine mj_callV0 h hg hev hvw hlink hd hn hroom hcells ρ hrec hci hin hnd hst hrr (fun r w' hp hpw => ?_)
  obtain ⟨st2, w2, h1, h2, h3⟩ := kk r w' hp
  exact ⟨st2, w2, mj_fin_eq h1 hpw, h2, h3⟩
/-- a call on cells of which some lie in a part of the world that isn't looked into -/
theorem mj_callVx (h : mj_E G X l D cA Y fr lo mc ms kp post) (hg : GoodIn G.2.1 G.2.1) {Yc : mj_N} {frc loc mcc msc n index : Nat} {As : List Value} {a0 : Nat} {wa wb : mj_M} {postc : mj_R} (hev : mj_Ev G l D cA Yc frc loc mcc msc (.ref a0 :: As) (wa ++ wb) (fun _ => True) postc) (hvw : mj_VW G Yc n)
    (hlink : Cond.methodLink Y.1.cls index Yc.1 ∈ G.2.1) (hd : decode Y.2.1 pc = .ok (.invokevirtual index, 3)) (hn : As.length = n) (hroom : frc + 1 ≤ fr ∧ 8 + (Yc.2.2.1 + 11) + loc ≤ lo) (hcells : cells + mcc ≤ mc ∧ slots + msc ≤ ms)
    (ρ : List (Nat × Nat)) {wf Rw wx : mj_M} {rest : List Value} {ci : Nat} {fs : List Value} {T : u_T} {N : Nat} (hrec : mj_lk (wa ++ wb) a0 some = some (.inr (ci, fs))) (hci : G.1[ci]? = some (Yc.1.cls, T, N))
    (hsub : mj_ct ρ wa wf = some (wx, wx)) (hsubR : ∀ q ∈ mj_wr (mj_ff ρ) wb, q ∈ Rw) (hnd : va_nd ((mj_wr (mj_ff ρ) (wa ++ wb)).map Prod.fst) = true) (hst : st = ((Value.ref a0 :: As).map (mj_v (mj_ff ρ))).reverse ++ rest) (hrr : (rest.map fun v => v.category).sum ≤ 8)
    (kk : ∀ (r : Option Value) (w' : mj_M), postc r w' → ∃ (wa' : mj_M) (st2 : List Value) (w2 : mj_M), w' = wa' ++ wb ∧ wa'.map Prod.fst = wa.map Prod.fst ∧ mj_fin ρ r wa' wf rest = some (st2, w2) ∧ mj_W G X (cells + mcc) (slots + msc) (pc + 3) lv st2 (w2 ++ Rw)) : mj_W G X cells slots pc lv st (wf ++ Rw) := by
  obtain ⟨-, hin1⟩ := mj_ct_in hsub
  have happ : ∀ x y : mj_M, mj_wr (mj_ff ρ) (x ++ y) = mj_wr (mj_ff ρ) x ++ mj_wr (mj_ff ρ) y := fun x y => by unfold mj_wr; rw [List.map_append]
  have hin : ∀ q ∈ mj_wr (mj_ff ρ) (wa ++ wb), q ∈ wf ++ Rw := by
    intro q hq
    rw [happ] at hq
    rcases List.mem_append.mp hq with hq | hq
    · exact List.mem_append_left _ (hin1 q hq)
    · exact List.mem_append_right _ (hsubR q hq)
  refine mj_callV0 h hg hev hvw hlink hd hn hroom hcells ρ hrec hci hin hnd hst hrr (fun r w' hp hpw => ?_)
  obtain ⟨wa', st2, w2, h1, h2, h3, h4⟩ := kk r w' hp
  subst h1
  obtain ⟨hp1, hp2, hp3⟩ := List.pairwise_append.mp hpw
  obtain ⟨e1, e2, e3⟩ := mj_fin_eq h3 hp1
  have hkey : ∀ z ∈ mj_wr (mj_ff ρ) wa', ∃ y ∈ wf, y.1 = z.1 := by
    intro z hz
    have hz1 : z.1 ∈ (mj_wr (mj_ff ρ) wa').map Prod.fst := List.mem_map.mpr ⟨z, hz, rfl⟩
    have hk : (mj_wr (mj_ff ρ) wa').map Prod.fst = (mj_wr (mj_ff ρ) wa).map Prod.fst := by
      unfold mj_wr
      rw [List.map_map, List.map_map]
      have hcomp : (Prod.fst ∘ fun q : Nat × mj_C => (mj_ff ρ q.1, mj_cr (mj_ff ρ) q.2)) = (mj_ff ρ) ∘ Prod.fst := rfl
      rw [hcomp, ← List.map_map, ← List.map_map, h2]
    rw [hk] at hz1
    obtain ⟨y, hy, hy1⟩ := List.mem_map.mp hz1
    exact ⟨y, hin1 y hy, hy1⟩
  refine ⟨st2, w2 ++ Rw, ⟨e1, by rw [List.map_append, List.map_append, e2], fun q hq => ?_⟩, by rw [List.map_append, List.map_append, h2], h4⟩
  rw [happ]
  rcases List.mem_append.mp hq with hq | hq
  · rcases e3 q hq with h5 | ⟨h5, h6⟩
    · exact Or.inl (List.mem_append_left _ h5)
    · refine Or.inr ⟨List.mem_append_left _ h5, fun z hz => ?_⟩
      rcases List.mem_append.mp hz with hz | hz
      · exact h6 z hz
      · exact fun h7 => hp3 q h5 z (hsubR z hz) h7.symm
  · by_cases hb : q ∈ mj_wr (mj_ff ρ) wb
    · exact Or.inl (List.mem_append_right _ hb)
    · refine Or.inr ⟨List.mem_append_right _ hq, fun z hz h7 => ?_⟩
      rcases List.mem_append.mp hz with hz | hz
      · obtain ⟨y, hy, hy1⟩ := hkey z hz
        exact hp3 y hy q hq (hy1.trans h7)
      · have hzR := hsubR z hz
        have hzq : z = q := by
          obtain ⟨i, hi⟩ := List.getElem?_of_mem hzR
          obtain ⟨j, hj⟩ := List.getElem?_of_mem hq
          obtain ⟨hi1, hi2⟩ := List.getElem?_eq_some_iff.mp hi
          obtain ⟨hj1, hj2⟩ := List.getElem?_eq_some_iff.mp hj
          have hpp := List.pairwise_iff_getElem.mp hp2
          rcases Nat.lt_trichotomy i j with h8 | h8 | h8
          · exact absurd (by rw [hi2, hj2]; exact h7) (hpp i j hi1 hj1 h8)
          · subst h8
            rw [← hi2, ← hj2]
          · exact absurd (by rw [hi2, hj2]; exact h7.symm) (hpp j i hj1 hi1 h8)
        exact hb (hzq ▸ hz)
theorem mj_callS (h : mj_E G X l D cA Y fr lo mc ms kp post) (hg : GoodIn G.2.1 G.2.1) {Yc : mj_N} {frc loc mcc msc n index : Nat} {As : List Value} {wc : mj_M} {postc : mj_R} (hev : mj_Ev G l D cA Yc frc loc mcc msc As wc (fun _ => True) postc) (hvw : mj_SW G Yc n) (hcls : Yc.1.cls = Y.1.cls)
    (hlink : Cond.methodLink Y.1.cls index Yc.1 ∈ G.2.1) (hd : decode Y.2.1 pc = .ok (.invokestatic index, 3)) (hn : As.length = n) (hroom : frc + 1 ≤ fr ∧ 8 + (Yc.2.2.1 + 11) + loc ≤ lo) (hcells : cells + mcc ≤ mc ∧ slots + msc ≤ ms)
    (ρ : List (Nat × Nat)) {wx : mj_M} {rest as2 : List Value}
    (hsub : mj_ct ρ wc w = some (wx, wx)) (hnd : va_nd (wx.map Prod.fst) = true) (hargs : mj_rl ρ As some = some as2) (hst : st = as2.reverse ++ rest) (hrr : (rest.map fun v => v.category).sum ≤ 8)
    (kk : ∀ (r : Option Value) (w' : mj_M), postc r w' → ∃ (st2 : List Value) (w2 : mj_M), mj_fin ρ r w' w rest = some (st2, w2) ∧ w'.map Prod.fst = wc.map Prod.fst ∧ mj_W G X (cells + mcc) (slots + msc) (pc + 3) lv st2 w2) : mj_W G X cells slots pc lv st w := by
  obtain ⟨p, l', e, R, s, m, args, below, meth, c, Q, D', cA', A, ad0, kp', nL⟩ := X
  obtain ⟨hB, rfl, rfl, rfl, rfl, hR1, hR2, hR3, hR4, hQ, hr, hlk⟩ := h
  intro ad H locs ls h0 hP hD hS hl
  obtain ⟨hv1, hv3, hv4, hv5, hv6, hv7⟩ := hvw
  obtain ⟨hwx, hin⟩ := mj_ct_in hsub
  rw [hwx] at hnd
  have hargs2 := mj_rl_eq hargs
  have hWc := mj_w_wr ad (mj_ff ρ) cA' wc
  have hPc : va_P D' G.1 (mj_w (fun q => ad (mj_ff ρ q)) cA' wc) H := by
    rw [← hWc]
    exact mj_P_in hP hin
  have hDc : va_D (fun _ => True) (mj_w (fun q => ad (mj_ff ρ q)) cA' wc) := by
    rw [← hWc]
    exact (mj_D_in hD hin hnd).weaken (fun _ _ _ _ => trivial)
  have hgood : GoodIn G.2.1 (wsS Y.1.cls index Yc.1 (Cond.code Yc.1 Yc.2.1 Yc.2.2.1 Yc.2.2.2 :: G.2.1)) := by
    refine mj_gin hg (fun x hx => ?_)
    unfold wsS at hx
    rcases List.mem_append.mp hx with hx | hx
    · simp only [List.mem_cons, List.not_mem_nil, or_false] at hx
      rcases hx with rfl | rfl | rfl
      · exact hlink
      · exact hv1
      · rw [← hcls]
        exact hv3
    · rcases List.mem_cons.mp hx with rfl | hx
      · exact hv4
      · exact hx
  have hrun := va_runS (As := As.map (mj_v fun q => ad (mj_ff ρ q))) (rest := rest.map (mj_v ad)) (g := F0 m pc ls (st.map (mj_v ad))) (cells := cells) (slots := slots) (locs := locs) (below := below) (meth := meth) (e := e) (H := H)
    ⟨hB.1, hB.2.1, hB.2.2.1, hB.2.2.2.2.1, hB.2.2.2.2.2.1⟩ (hev (fun q => ad (mj_ff ρ q)) H.size)
    (cwS (R := R) n hB.2.2.2.2.2.1 hgood rfl rfl rfl ⟨hcls, hv5, hv6, hv7⟩ ⟨by rw [hR1]; exact hroom.1, by rw [hR4]; exact hroom.2⟩)
    ⟨mj_pre_blind, fun U hU hW => ⟨rfl, by rw [hU], by rw [hU]; exact hPc, va_K.moved hW.alike hB.2.2.2.2.2.2.1, hDc⟩⟩
    rfl (by rw [List.length_map]; exact hn) hl.1 (by
      show st.map (mj_v ad) = _
      have e9 : as2.map (mj_v ad) = As.map (mj_v fun q => ad (mj_ff ρ q)) := by
        rw [hargs2, List.map_map]
        exact List.map_congr_left (fun v _ => mj_v_v ad (mj_ff ρ) v)
      rw [hst, List.map_append, List.map_reverse, e9]) (lv_room (by simpa [Function.comp_def, mj_v_cat] using hrr)) hd ⟨by rw [hR2]; exact hcells.1, by rw [hR3]; exact hcells.2⟩
  refine mj_afterP (ρ := ρ) (w := w) (wc := wc) (postc := postc) hrun hS hP hD hB.2.2.2.2.2.2.2.1 hin (fun r w' hp hpw => ?_)
  obtain ⟨st2, w2, h1, h2, k⟩ := kk r w' hp
  exact ⟨st2, w2, mj_fin_eq h1 hpw, h2, fun H1 locs1 hP1 hD1 hS1 => k ad H1 locs1 ls h0 hP1 hD1 hS1 hl⟩
theorem mj_min (h : mj_E G X l D cA Y fr lo mc ms kp post) {index : Nat} {x y : Int32} {rest : List Value} (h1 : Cond.methodLink Y.1.cls index Lib.Math.min.name ∈ G.2.1) (h2 : Cond.static Lib.Math.min.name ∈ G.2.1) (h3 : Cond.initialized "java/lang/Math" ∈ G.2.1) (h4 : Cond.code Lib.Math.min.name Lib.Math.min.code 2 (some .int) ∈ G.2.1) (hfr : 1 ≤ fr) (hlo : (rest.map fun v => v.category).sum + 13 ≤ lo) (hc : cells ≤ mc) (hs : slots ≤ ms) (hd : decode Y.2.1 pc = .ok (.invokestatic index, 3))
    (kk : mj_W G X cells slots (pc + 3) lv (.int (if y < x then y else x) :: rest) w) : mj_W G X cells slots pc lv (.int y :: .int x :: rest) w := by
  obtain ⟨p, l', e, R, s, m, args, below, meth, c, Q, D', cA', A, ad0, kp', nL⟩ := X
  obtain ⟨hB, rfl, rfl, rfl, rfl, hR1, hR2, hR3, hR4, hQ, hr, hlk⟩ := h
  intro ad H locs ls h0 hP hD hS hl
  exact va_mmin hB.1 hB.2.1 (hB.2.2.1.trans hl.1.symm) hB.2.2.2.2.1 (hB.2.2.2.2.2.1 _ h1) (hB.2.2.2.2.2.1 _ h2) (hB.2.2.2.2.2.1 _ h3) (hB.2.2.2.2.2.1 _ h4) (by rw [hR1]; exact hfr) (by rw [hR4]; simpa [Function.comp_def, mj_v_cat] using hlo) (by rw [hR2]; exact hc) (by rw [hR3]; exact hs) hd (kk ad H locs ls h0 hP hD hS hl)
theorem mj_max (h : mj_E G X l D cA Y fr lo mc ms kp post) {index : Nat} {x y : Int32} {rest : List Value} (h1 : Cond.methodLink Y.1.cls index Lib.Math.max.name ∈ G.2.1) (h2 : Cond.static Lib.Math.max.name ∈ G.2.1) (h3 : Cond.initialized "java/lang/Math" ∈ G.2.1) (h4 : Cond.code Lib.Math.max.name Lib.Math.max.code 2 (some .int) ∈ G.2.1) (hfr : 1 ≤ fr) (hlo : (rest.map fun v => v.category).sum + 13 ≤ lo) (hc : cells ≤ mc) (hs : slots ≤ ms) (hd : decode Y.2.1 pc = .ok (.invokestatic index, 3))
    (kk : mj_W G X cells slots (pc + 3) lv (.int (if x < y then y else x) :: rest) w) : mj_W G X cells slots pc lv (.int y :: .int x :: rest) w := by
  obtain ⟨p, l', e, R, s, m, args, below, meth, c, Q, D', cA', A, ad0, kp', nL⟩ := X
  obtain ⟨hB, rfl, rfl, rfl, rfl, hR1, hR2, hR3, hR4, hQ, hr, hlk⟩ := h
  intro ad H locs ls h0 hP hD hS hl
  exact va_mmax hB.1 hB.2.1 (hB.2.2.1.trans hl.1.symm) hB.2.2.2.2.1 (hB.2.2.2.2.2.1 _ h1) (hB.2.2.2.2.2.1 _ h2) (hB.2.2.2.2.2.1 _ h3) (hB.2.2.2.2.2.1 _ h4) (by rw [hR1]; exact hfr) (by rw [hR4]; simpa [Function.comp_def, mj_v_cat] using hlo) (by rw [hR2]; exact hc) (by rw [hR3]; exact hs) hd (kk ad H locs ls h0 hP hD hS hl)
end MJC
/-! making cells -/
def mj_nv (pn : Nat) : Value → Prop
  | .ref a => a ≠ pn
  | _ => True
def mj_nc (pn : Nat) : mj_C → Prop
  | .inl (_, _, .inl _) => True
  | .inl (_, _, .inr (.inl _)) => True
  | .inl (_, _, .inr (.inr l)) => some pn ∉ l
  | .inr (_, fs) => ∀ v ∈ fs, mj_nv pn v
def mj_nw (pn : Nat) (w : mj_M) : Prop := ∀ q ∈ w, q.1 ≠ pn ∧ mj_nc pn q.2
def mj_nl (pn : Nat) (lv : mj_L) : Prop := ∀ q ∈ lv, mj_nv pn q.2
def mj_ns2 (pn : Nat) (st : List Value) : Prop := ∀ v ∈ st, mj_nv pn v
def mj_au (ad : Nat → Nat) (pn q : Nat) : Nat → Nat := fun i => if i = pn then q else ad i
theorem mj_au_v {ad : Nat → Nat} {pn q : Nat} {v : Value} (h : mj_nv pn v) : mj_v (mj_au ad pn q) v = mj_v ad v := by
  cases v with
  | ref a =>
    show Value.ref (if a = pn then q else ad a) = .ref (ad a)
    rw [if_neg h]
  | _ => rfl
theorem mj_au_e {ad : Nat → Nat} {pn q : Nat} {cA : Nat → ClassId} {e : mj_C} (h : mj_nc pn e) : mj_e (mj_au ad pn q) cA e = mj_e ad cA e := by
  rcases e with ⟨t, n, f | f | f⟩ | ⟨c, fs⟩
  · rfl
  · rfl
  · show (Sum.inl (cA t, n, .inr (.inr (.inr (.inr (fun j => (f.getD j none).map (mj_au ad pn q)))))) : va_E) = .inl (cA t, n, .inr (.inr (.inr (.inr (fun j => (f.getD j none).map ad)))))
    have hfun : (fun j => (f.getD j none).map (mj_au ad pn q)) = (fun j => (f.getD j none).map ad) := by
     funext j
     cases hj : f.getD j none with
     | none => rfl
     | some a =>
       have hm : some a ∈ f := by
         rw [List.getD_eq_getElem?_getD] at hj
         cases h2 : f[j]? with
         | none => rw [h2] at hj; cases hj
         | some o =>
           rw [h2] at hj
           have hj : o = some a := hj
           rw [← hj]
           exact List.mem_of_getElem? h2
       have hne : a ≠ pn := fun h3 => h (h3 ▸ hm)
       show some (if a = pn then q else ad a) = some (ad a)
       rw [if_neg hne]
    rw [hfun]
  · show (Sum.inr (c, fs.map (mj_v (mj_au ad pn q))) : va_E) = .inr (c, fs.map (mj_v ad))
    congr 2
    apply List.map_congr_left
    intro v hv
    exact mj_au_v (h v hv)
theorem mj_au_w {ad : Nat → Nat} {pn q : Nat} {cA : Nat → ClassId} {w : mj_M} (h : mj_nw pn w) : mj_w (mj_au ad pn q) cA w = mj_w ad cA w := by
  unfold mj_w
  apply List.map_congr_left
  intro z hz
  show (mj_au ad pn q z.1, mj_e (mj_au ad pn q) cA z.2) = _
  rw [mj_au_e (h z hz).2]
  show ((if z.1 = pn then q else ad z.1), _) = _
  rw [if_neg (h z hz).1]
theorem mj_au_l {ad : Nat → Nat} {pn q : Nat} {lv : mj_L} (h : mj_nl pn lv) : mj_l (mj_au ad pn q) lv = mj_l ad lv := by
  unfold mj_l
  apply List.map_congr_left
  intro z hz
  rw [mj_au_v (h z hz)]
theorem mj_au_s {ad : Nat → Nat} {pn q : Nat} {st : List Value} (h : mj_ns2 pn st) : st.map (mj_v (mj_au ad pn q)) = st.map (mj_v ad) := by
  apply List.map_congr_left
  intro z hz
  exact mj_au_v (h z hz)
def mj_sn {β : Type} : mj_M → (Nat × mj_C) → (mj_M → Option β) → Option β
  | [], x, k => k [x]
  | q :: w, x, k => mj_sn w x (fun l => k (q :: l))
theorem mj_sn_eq {β : Type} (w : mj_M) (x : Nat × mj_C) (k : mj_M → Option β) : mj_sn w x k = k (w ++ [x]) := by
  induction w generalizing k with
  | nil => rfl
  | cons q w ih => simp only [mj_sn, ih, List.cons_append]
def mj_il : (Nat → Int32) ⊕ (Nat → Int64) → (Nat → Int32) ⊕ (Nat → Int64) ⊕ List (Option Nat)
  | .inl f => .inl f
  | .inr f => .inr (.inl f)
def mj_va (n : Nat) : (Nat → Int32) ⊕ (Nat → Int64) → vp_A
  | .inl f => (n, .inl f)
  | .inr f => (n, .inr (.inl f))
section MJA
variable {G : mj_G} {X : mj_X} {M : mj_Y} {cells slots pc : Nat} {lv : mj_L} {st : List Value} {w w2 : mj_M}
/-- X's room and what it keeps -/
def mj_Rm (X : mj_X) (mc ms : Nat) (kp : Nat → Prop) : Prop := X.2.2.2.1.cells = mc ∧ X.2.2.2.1.slots = ms ∧ X.2.2.2.2.2.2.2.2.2.2.2.2.2.2.2.1 = kp
theorem mj_new (hB : mj_B G X M) {mc ms : Nat} {kp : Nat → Prop} (hX : mj_Rm X mc ms kp) {C0 : String} {T : u_T} {N index ci : Nat} {ty0 : Nat → FieldType} {fs : List Value} (hc : G.1[ci]? = some (C0, T, N)) (hin : ∀ w ∈ u_ws C0 T N, w ∈ G.2.1) (hty : ∀ k, k < N → parseFieldDescriptor (T k).2.2.1 = some (ty0 k)) (h1 : Cond.classLink M.1 index C0 ∈ G.2.1) (h2 : Cond.instantiable C0 N ∈ G.2.1) (h3 : Cond.initialized C0 ∈ G.2.1) (hfs : ∀ j, j < N → defaultValue (ty0 j) = vp_V fs j) (hnr : ∀ ad : Nat → Nat, fs.map (mj_v ad) = fs)
    (hd : decode M.2.2.1 pc = .ok (.new index, 3)) (hcells : cells + 1 ≤ mc) (hslots : slots + N ≤ ms) (pn : Nat) (hkp : ¬ kp pn) (hf : mj_nw pn w ∧ mj_nl pn lv ∧ mj_ns2 pn st) (hw2 : mj_sn w (pn, .inr (ci, fs)) some = some w2)
    (kk : mj_W G X (cells + 1) (slots + N) (pc + 3) lv (.ref pn :: st) w2) : mj_W G X cells slots pc lv st w := by
  obtain ⟨p, l, e, R, s, m, args, below, meth, c, Q, D, cA, A, ad0, kp', nL⟩ := X
  obtain ⟨hx1, hx2, hx3⟩ := hX
  have hx1 : R.cells = mc := hx1
  have hx2 : R.slots = ms := hx2
  have hx3 : kp' = kp := hx3
  subst hx3
  intro ad H locs ls h0 hP hD hS hl
  rw [mj_sn_eq] at hw2
  have hw2 := Option.some.inj hw2
  subst hw2
  refine va_new (ci := ci) (fs := fs) (C := C0) (T := T) (N := N) hB.1 hB.2.1 hB.2.2.2.2.2.1 hin ty0 hty hB.2.2.2.2.1 (hB.2.2.2.2.2.1 _ h1) (hB.2.2.2.2.2.1 _ h2) (hB.2.2.2.2.2.1 _ h3) hB.2.2.2.2.2.2.1 hP hD hS hB.2.2.2.2.2.2.2.1 hc hfs (by rw [hx1]; exact hcells) (by rw [hx2]; exact hslots) hd (fun q H1 hP1 hD1 hS1 => ?_)
  have e1 : mj_w (mj_au ad pn q) cA (w ++ [(pn, .inr (ci, fs))]) = mj_w ad cA w ++ [(q, .inr (ci, fs))] := by
    have e2 : mj_w (mj_au ad pn q) cA (w ++ [(pn, .inr (ci, fs))]) = mj_w (mj_au ad pn q) cA w ++ [(mj_au ad pn q pn, .inr (ci, fs.map (mj_v (mj_au ad pn q))))] := by
      unfold mj_w
      rw [List.map_append]
      rfl
    rw [e2, mj_au_w hf.1, hnr]
    show mj_w ad cA w ++ [((if pn = pn then q else ad pn), _)] = _
    rw [if_pos rfl]
  have k2 := kk (mj_au ad pn q) H1 locs ls (fun z hz => by
    show (if z = pn then q else ad z) = ad0 z
    rw [if_neg (show ¬ z = pn from fun h => hkp (h ▸ hz))]
    exact h0 z hz) (by rw [e1]; exact hP1) (by rw [e1]; exact hD1) hS1 (by rw [mj_au_l hf.2.1]; exact hl)
  have e3 : (Value.ref pn :: st).map (mj_v (mj_au ad pn q)) = .ref q :: st.map (mj_v ad) := by
    rw [List.map_cons, mj_au_s hf.2.2]
    show Value.ref (if pn = pn then q else ad pn) :: _ = _
    rw [if_pos rfl]
  rw [e3] at k2
  exact k2
theorem mj_newa (hB : mj_B G X M) {mc ms : Nat} {kp : Nat → Prop} (hX : mj_Rm X mc ms kp) {atype : ArrayType} {ty : FieldType} {t N' : Nat} {n : Int32} {f : (Nat → Int32) ⊕ (Nat → Int64)} (harr : Cond.arrayClass (newarray.typeOf atype) ∈ G.2.1) (hty : newarray.typeOf atype = ty) (hG : G.2.2[t]? = some ty) (hRA : ∀ (U : State) (cA : ClassId), va_RA U cA ty → U.vm.findClass ("[" ++ ty.toString) = some cA)
    (ha : ∀ cB : ClassId, vp_cell cB (mj_va N' f) = arrV cB N' (fun _ => defaultValue ty)) (hn : ¬ n < 0) (hN : n.toNatClampNeg = N') (hbytes : N' * componentBytes ty ≤ 536870912)
    (hd : decode M.2.2.1 pc = .ok (.newarray atype, 2)) (hcells : cells + 1 ≤ mc) (hslots : slots + N' ≤ ms) (pn : Nat) (hkp : ¬ kp pn) (hf : mj_nw pn w ∧ mj_nl pn lv ∧ mj_ns2 pn st) (hw2 : mj_sn w (pn, .inl (t, N', mj_il f)) some = some w2)
    (kk : mj_W G X (cells + 1) (slots + N') (pc + 2) lv (.ref pn :: st) w2) : mj_W G X cells slots pc lv (.int n :: st) w := by
  obtain ⟨p, l, e, R, s, m, args, below, meth, c, Q, D, cA, A, ad0, kp', nL⟩ := X
  obtain ⟨hx1, hx2, hx3⟩ := hX
  have hx1 : R.cells = mc := hx1
  have hx2 : R.slots = ms := hx2
  have hx3 : kp' = kp := hx3
  subst hx3
  intro ad H locs ls h0 hP hD hS hl
  rw [mj_sn_eq] at hw2
  have hw2 := Option.some.inj hw2
  subst hw2
  refine va_newa hB.1 hB.2.1 (hB.2.2.2.2.2.1 _ harr) hty hB.2.2.2.2.2.2.1 hP hD hS hB.2.2.2.2.2.2.2.1 ha hn hN hbytes (by rw [hx1]; exact hcells) (by rw [hx2]; exact hslots) hd (fun q cB H1 hK1 hP1 hD1 hS1 => ?_)
  have hcB : cB = cA t := by
    have r1 := hRA _ _ (hK1.2 (mj_tys cA G.2.2).length (cB, ty) (by simp)).2
    have r2 := hRA _ _ (hB.2.2.2.2.2.2.1.2 t (cA t, ty) (mj_tys_at hG)).2
    exact Option.some.inj (r1.symm.trans r2)
  subst hcB
  have hnc : ∀ ad : Nat → Nat, mj_e ad cA (.inl (t, N', mj_il f)) = .inl (cA t, mj_va N' f) := by
    intro ad
    rcases f with f | f <;> rfl
  have e1 : mj_w (mj_au ad pn q) cA (w ++ [(pn, .inl (t, N', mj_il f))]) = mj_w ad cA w ++ [(q, .inl (cA t, mj_va N' f))] := by
    have e2 : mj_w (mj_au ad pn q) cA (w ++ [(pn, .inl (t, N', mj_il f))]) = mj_w (mj_au ad pn q) cA w ++ [(mj_au ad pn q pn, mj_e (mj_au ad pn q) cA (.inl (t, N', mj_il f)))] := by
      unfold mj_w
      rw [List.map_append]
      rfl
    rw [e2, mj_au_w hf.1, hnc]
    show mj_w ad cA w ++ [((if pn = pn then q else ad pn), _)] = _
    rw [if_pos rfl]
  have k2 := kk (mj_au ad pn q) H1 locs ls (fun z hz => by
    show (if z = pn then q else ad z) = ad0 z
    rw [if_neg (show ¬ z = pn from fun h => hkp (h ▸ hz))]
    exact h0 z hz) (by rw [e1]; exact hP1) (by rw [e1]; exact hD1) hS1 (by rw [mj_au_l hf.2.1]; exact hl)
  have e3 : (Value.ref pn :: st).map (mj_v (mj_au ad pn q)) = .ref q :: st.map (mj_v ad) := by
    rw [List.map_cons, mj_au_s hf.2.2]
    show Value.ref (if pn = pn then q else ad pn) :: _ = _
    rw [if_pos rfl]
  rw [e3] at k2
  exact k2
end MJA
