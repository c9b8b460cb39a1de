/-! fields and arrays -/
section MJH
variable {G : mj_G} {own nm : String} {cc : ByteArray} {nL pc : Nat}
def x_getf (ci kf : Nat) : mj_T := fun C lv st w k => match st with
  | .ref a :: r => mj_lk w a fun e => match e with
    | .inr (c, fs) => bif Nat.beq c ci then mj_nt fs kf (fun v => k C lv (v :: r) w) else none
    | _ => none
  | _ => none
theorem mj_getf {C0 : String} {T : u_T} {N index ci kf : Nat} (hc : G.1[ci]? = some (C0, T, N)) (hk : kf < N) (hin : ∀ w ∈ u_ws C0 T N, w ∈ G.2.1) (hlink : Cond.fieldLink own index (T kf).1 (T kf).2.1 (T kf).2.2.1 ∈ G.2.1) (hd : decode cc pc = .ok (.getfield index, 3)) : mj_Snd G (own, nm, cc, nL) pc (x_getf ci kf) (pc + 3) := by
  intro X hB C lv st w
  obtain ⟨p, l, e, R, s, m, args, below, meth, c, Q, D, cA, A, ad0, kp, nL'⟩ := X
  rcases st with _ | ⟨v1, r⟩
  · exact Or.inl fun _ => rfl
  cases v1 with
  | ref a =>
    rcases mj_wk_or w a with h | ⟨v, q0, h, hq, -⟩
    · exact Or.inl fun k => h _
    · rcases v with v | ⟨c0, fs⟩
      · exact Or.inl fun k => h _
      · by_cases hcc : c0 = ci
        · subst hcc
          rcases mj_nt_or fs kf with h2 | ⟨x, h2, hx⟩
          · exact Or.inl fun k => (h _).trans (by show (bif Nat.beq c0 c0 then _ else _) = _; rw [mj_bq]; exact h2 _)
          · refine Or.inr ⟨C, lv, x :: r, w, fun k => (h _).trans (by show (bif Nat.beq c0 c0 then _ else _) = _; rw [mj_bq]; exact h2 _), id, fun _ cells slots kk ad H locs ls h0 hP hD hS hl => ?_⟩
            exact va_get hB.1 hB.2.1 hB.2.2.2.2.2.1 hin hB.2.2.2.2.1 hB.2.2.2.2.2.2.1 hP q0 (mj_w_at hq) hc kf hk (hB.2.2.2.2.2.1 _ hlink) (fun _ h => h) (by show (fs.map (mj_v ad))[kf]? = _; rw [List.getElem?_map, hx]; rfl) hd (kk ad H locs ls h0 hP hD hS hl)
        · exact Or.inl fun k => (h _).trans (by show (bif Nat.beq c0 ci then _ else _) = _; rw [mj_bn hcc]; rfl)
  | _ => exact Or.inl fun _ => rfl
def mj_fit (tn : Nat) (v : Value) (C : List Prop) (k : List Prop → mj_S) : mj_S := match v with
  | .int x => bif Nat.beq tn 0 then k C else bif Nat.beq tn 1 then k ((x = 0 ∨ x = 1) :: C) else none
  | .long _ => bif Nat.beq tn 2 then k C else none
  | .ref _ => bif Nat.beq tn 3 then k C else none
  | .null => bif Nat.beq tn 3 then k C else none
  | _ => none
def mj_tyn (ty : FieldType) : Nat := match ty with
  | .int => 0
  | .boolean => 1
  | .long => 2
  | .object _ => 3
  | .array _ => 3
  | _ => 4
theorem mj_fit_or (ty : FieldType) (v : Value) (C : List Prop) : (∀ k, mj_fit (mj_tyn ty) v C k = none) ∨ ∃ C', (∀ k, mj_fit (mj_tyn ty) v C k = k C') ∧ (mj_al C' → mj_al C) ∧ (mj_al C' → ∀ ad : Nat → Nat, narrow ty (mj_v ad v) = mj_v ad v ∧ fits ty (mj_v ad v) = true) := by
  cases ty <;> cases v <;> first
    | exact Or.inl (fun _ => rfl)
    | exact Or.inr ⟨C, fun _ => rfl, id, fun _ ad => ⟨rfl, rfl⟩⟩
    | exact Or.inr ⟨_ :: C, fun _ => rfl, fun h => h.2, fun h ad => by
        rcases h.1 with h1 | h1
        · subst h1
          exact (show narrow .boolean (.int 0) = .int 0 ∧ fits .boolean (.int 0) = true from ⟨by decide, by decide⟩)
        · subst h1
          exact (show narrow .boolean (.int 1) = .int 1 ∧ fits .boolean (.int 1) = true from ⟨by decide, by decide⟩)⟩
def x_putf (ci kf tn : Nat) : mj_T := fun C lv st w k => match st with
  | v :: .ref a :: r => mj_lk w a fun e => match e with
    | .inr (c, fs) => bif Nat.beq c ci then mj_nt fs kf (fun _ => mj_fit tn v C (fun C' => mj_ns fs kf v (fun fs' => mj_st w a (.inr (c, fs')) (fun w' => k C' lv r w')))) else none
    | _ => none
  | _ => none
theorem mj_map_set {ad : Nat → Nat} {fs : List Value} {k : Nat} {v : Value} : (fs.set k v).map (mj_v ad) = (fs.map (mj_v ad)).set k (mj_v ad v) := by simp [List.map_set]
theorem mj_putG {C0 : String} {T : u_T} {N index ci kf : Nat} {ty0 : Nat → FieldType} (hc : G.1[ci]? = some (C0, T, N)) (hk : kf < N) (hin : ∀ w ∈ u_ws C0 T N, w ∈ G.2.1) (hty : ∀ k, k < N → parseFieldDescriptor (T k).2.2.1 = some (ty0 k)) (hnm : ∀ a, a < N → ∀ b, b < N → a ≠ b → (T a).2.1 ≠ (T b).2.1) (hlink : Cond.fieldLink own index (T kf).1 (T kf).2.1 (T kf).2.2.1 ∈ G.2.1) (hfin : (T kf).2.2.2 = false ∨ ((T kf).2.2.2 = true ∧ nm = "<init>" ∧ (T kf).1 = own)) (hd : decode cc pc = .ok (.putfield index, 3)) : mj_Snd G (own, nm, cc, nL) pc (x_putf ci kf (mj_tyn (ty0 kf))) (pc + 3) := by
  intro X hB C lv st w
  obtain ⟨p, l, e, R, s, m, args, below, meth, c, Q, D, cA, A, ad0, kp, nL'⟩ := X
  rcases st with _ | ⟨x, _ | ⟨v2, r⟩⟩
  · exact Or.inl fun _ => rfl
  · exact Or.inl fun _ => rfl
  cases v2 with
  | ref a =>
    rcases mj_wk_or w a with h | ⟨v, q0, h, hq, hst⟩
    · exact Or.inl fun k => h _
    · rcases v with v | ⟨c0, fs⟩
      · exact Or.inl fun k => h _
      · by_cases hcc : c0 = ci
        · subst hcc
          rcases mj_nt_or fs kf with h2 | ⟨y, h2, hy⟩
          · exact Or.inl fun k => (h _).trans (by show (bif Nat.beq c0 c0 then _ else _) = _; rw [mj_bq]; exact h2 _)
          · rcases mj_fit_or (ty0 kf) x C with h3 | ⟨C', h3, h4, h5⟩
            · exact Or.inl fun k => (h _).trans (by show (bif Nat.beq c0 c0 then _ else _) = _; rw [mj_bq]; exact (h2 _).trans (h3 _))
            · refine Or.inr ⟨C', lv, r, w.set q0 (a, .inr (c0, fs.set kf x)), fun k => (h _).trans (by show (bif Nat.beq c0 c0 then _ else _) = _; rw [mj_bq]; exact (h2 _).trans ((h3 _).trans ((mj_ns_eq _ _ _ _).trans (hst _ _)))), h4, fun hC cells slots kk ad H locs ls h0 hP hD hS hl => ?_⟩
              have hlen : kf < (fs.map (mj_v ad)).length := by
                rw [List.length_map]
                exact (List.getElem?_eq_some_iff.mp hy).1
              have kk2 : ∀ (H1 : Heap) (locs1 : List Loc), va_P D G.1 ((mj_w ad cA w).set q0 (ad a, .inr (c0, (fs.map (mj_v ad)).set kf (mj_v ad x)))) H1 → va_D A ((mj_w ad cA w).set q0 (ad a, .inr (c0, (fs.map (mj_v ad)).set kf (mj_v ad x)))) → va_S A s.heap H1 locs1 → W p l e R s m args below meth c H1 locs1 cells slots Q (F0 m (pc + 3) ls (r.map (mj_v ad))) := by
                intro H1 locs1 hP1 hD1 hS1
                have e1 : mj_w ad cA (w.set q0 (a, .inr (c0, fs.set kf x))) = (mj_w ad cA w).set q0 (ad a, .inr (c0, (fs.map (mj_v ad)).set kf (mj_v ad x))) := by
                  rw [mj_w_set]
                  show (mj_w ad cA w).set q0 (ad a, .inr (c0, (fs.set kf x).map (mj_v ad))) = _
                  rw [mj_map_set]
                exact kk ad H1 locs1 ls h0 (by rw [e1]; exact hP1) (by rw [e1]; exact hD1) hS1 hl
              rcases hfin with hf | ⟨hf, hi, ho⟩
              · exact va_put hB.1 hB.2.1 hB.2.2.2.2.2.1 hin ty0 hty hnm hB.2.2.2.2.1 hB.2.2.2.2.2.2.1 hP hD hS q0 (mj_w_at hq) hc kf hk (hB.2.2.2.2.2.1 _ hlink) (fun _ h => h) hf (hty kf hk) (h5 hC ad).1 (h5 hC ad).2 hlen hd kk2
              · exact va_putF hB.1 hB.2.1 hB.2.2.2.2.2.1 hin ty0 hty hnm hB.2.2.2.2.1 hB.2.2.2.2.2.2.1 hP hD hS q0 (mj_w_at hq) hc kf hk (hB.2.2.2.2.2.1 _ hlink) (fun _ h => h) hf (hB.2.2.2.2.2.2.2.2.trans hi) ho (hty kf hk) (h5 hC ad).1 (h5 hC ad).2 hlen hd kk2
        · exact Or.inl fun k => (h _).trans (by show (bif Nat.beq c0 ci then _ else _) = _; rw [mj_bn hcc]; rfl)
  | _ => exact Or.inl fun _ => rfl
/-- int[] and boolean[] and long[]: t is the place of the type in G.2.2 -/
def x_iald (t0 : Nat) : mj_T := fun C lv st w k => match st with
  | .int i :: .ref a :: r => mj_lk w a fun e => match e with
    | .inl (t, n, .inl f) => bif Nat.beq t t0 then k (vp_in i n :: C) lv (.int (f i.toNatClampNeg) :: r) w else none
    | _ => none
  | _ => none
theorem mj_iald {t0 : Nat} (hG : G.2.2[t0]? = some .int) (hd : decode cc pc = .ok (.iaload, 1)) : mj_Snd G (own, nm, cc, nL) pc (x_iald t0) (pc + 1) := by
  intro X hB C lv st w
  obtain ⟨p, l, e, R, s, m, args, below, meth, c, Q, D, cA, A, ad0, kp, nL'⟩ := X
  rcases st with _ | ⟨v1, _ | ⟨v2, r⟩⟩
  · exact Or.inl fun _ => rfl
  · cases v1 <;> exact Or.inl fun _ => rfl
  cases v1 <;> cases v2 <;> try exact Or.inl fun _ => rfl
  rename_i i a
  rcases mj_wk_or w a with h | ⟨v, q0, h, hq, -⟩
  · exact Or.inl fun k => h _
  rcases v with ⟨t, n, f | f | f⟩ | v
  · by_cases ht : t = t0
    · subst ht
      exact Or.inr ⟨vp_in i n :: C, lv, .int (f i.toNatClampNeg) :: r, w, fun k => (h _).trans (by show (bif Nat.beq t t then _ else _) = _; rw [mj_bq]; rfl), fun h => h.2, fun hc cells slots kk ad H locs ls h0 hP hD hS hl => va_iald hB.1 hB.2.1 hB.2.2.2.2.2.2.1 hP q0 t (mj_w_at hq) (mj_tys_at hG) hc.1 hd (kk ad H locs ls h0 hP hD hS hl)⟩
    · exact Or.inl fun k => (h _).trans (by show (bif Nat.beq t t0 then _ else _) = _; rw [mj_bn ht]; rfl)
  · exact Or.inl fun k => h _
  · exact Or.inl fun k => h _
  · exact Or.inl fun k => h _
theorem mj_zald {t0 : Nat} (hG : G.2.2[t0]? = some .boolean) (hd : decode cc pc = .ok (.baload, 1)) : mj_Snd G (own, nm, cc, nL) pc (x_iald t0) (pc + 1) := by
  intro X hB C lv st w
  obtain ⟨p, l, e, R, s, m, args, below, meth, c, Q, D, cA, A, ad0, kp, nL'⟩ := X
  rcases st with _ | ⟨v1, _ | ⟨v2, r⟩⟩
  · exact Or.inl fun _ => rfl
  · cases v1 <;> exact Or.inl fun _ => rfl
  cases v1 <;> cases v2 <;> try exact Or.inl fun _ => rfl
  rename_i i a
  rcases mj_wk_or w a with h | ⟨v, q0, h, hq, -⟩
  · exact Or.inl fun k => h _
  rcases v with ⟨t, n, f | f | f⟩ | v
  · by_cases ht : t = t0
    · subst ht
      exact Or.inr ⟨vp_in i n :: C, lv, .int (f i.toNatClampNeg) :: r, w, fun k => (h _).trans (by show (bif Nat.beq t t then _ else _) = _; rw [mj_bq]; rfl), fun h => h.2, fun hc cells slots kk ad H locs ls h0 hP hD hS hl => va_zald hB.1 hB.2.1 hB.2.2.2.2.2.2.1 hP q0 t (mj_w_at hq) (mj_tys_at hG) hc.1 hd (kk ad H locs ls h0 hP hD hS hl)⟩
    · exact Or.inl fun k => (h _).trans (by show (bif Nat.beq t t0 then _ else _) = _; rw [mj_bn ht]; rfl)
  · exact Or.inl fun k => h _
  · exact Or.inl fun k => h _
  · exact Or.inl fun k => h _
def x_iast (t0 : Nat) : mj_T := fun C lv st w k => match st with
  | .int x :: .int i :: .ref a :: r => mj_lk w a fun e => match e with
    | .inl (t, n, .inl f) => bif Nat.beq t t0 then mj_st w a (.inl (t, n, .inl (upd f i.toNatClampNeg x))) (fun w' => k (vp_in i n :: C) lv r w') else none
    | _ => none
  | _ => none
theorem mj_iast {t0 : Nat} (hG : G.2.2[t0]? = some .int) (hd : decode cc pc = .ok (.iastore, 1)) : mj_Snd G (own, nm, cc, nL) pc (x_iast t0) (pc + 1) := by
  intro X hB C lv st w
  obtain ⟨p, l, e, R, s, m, args, below, meth, c, Q, D, cA, A, ad0, kp, nL'⟩ := X
  rcases st with _ | ⟨v1, _ | ⟨v2, _ | ⟨v3, r⟩⟩⟩
  · exact Or.inl fun _ => rfl
  · cases v1 <;> exact Or.inl fun _ => rfl
  · cases v1 <;> cases v2 <;> exact Or.inl fun _ => rfl
  cases v1 <;> try exact Or.inl fun _ => rfl
  cases v2 <;> try exact Or.inl fun _ => rfl
  cases v3 <;> try exact Or.inl fun _ => rfl
  rename_i x i a
  rcases mj_wk_or w a with h | ⟨v, q0, h, hq, hst⟩
  · exact Or.inl fun k => h _
  rcases v with ⟨t, n, f | f | f⟩ | v
  · by_cases ht : t = t0
    · subst ht
      exact Or.inr ⟨vp_in i n :: C, lv, r, w.set q0 (a, .inl (t, n, .inl (upd f i.toNatClampNeg x))), fun k => (h _).trans (by show (bif Nat.beq t t then _ else _) = _; rw [mj_bq]; exact hst _ _), fun h => h.2, fun hc cells slots kk ad H locs ls h0 hP hD hS hl =>
        va_iast hB.1 hB.2.1 hB.2.2.2.2.2.2.1 hP hD hS q0 t (mj_w_at hq) (mj_tys_at hG) hc.1 hd (fun H1 locs1 hP1 hD1 hS1 => kk ad H1 locs1 ls h0 (by rw [mj_w_set]; exact hP1) (by rw [mj_w_set]; exact hD1) hS1 hl)⟩
    · exact Or.inl fun k => (h _).trans (by show (bif Nat.beq t t0 then _ else _) = _; rw [mj_bn ht]; rfl)
  · exact Or.inl fun k => h _
  · exact Or.inl fun k => h _
  · exact Or.inl fun k => h _
def x_zast (t0 : Nat) : mj_T := fun C lv st w k => match st with
  | .int x :: .int i :: .ref a :: r => mj_lk w a fun e => match e with
    | .inl (t, n, .inl f) => bif Nat.beq t t0 then mj_st w a (.inl (t, n, .inl (upd f i.toNatClampNeg x))) (fun w' => k (vp_in i n :: (x = 0 ∨ x = 1) :: C) lv r w') else none
    | _ => none
  | _ => none
theorem mj_nar_b {x : Int32} (h : x = 0 ∨ x = 1) : vp_nar .boolean x = x := by
  rcases h with h | h <;> (subst h; decide)
theorem mj_zast {t0 : Nat} (hG : G.2.2[t0]? = some .boolean) (hd : decode cc pc = .ok (.bastore, 1)) : mj_Snd G (own, nm, cc, nL) pc (x_zast t0) (pc + 1) := by
  intro X hB C lv st w
  obtain ⟨p, l, e, R, s, m, args, below, meth, c, Q, D, cA, A, ad0, kp, nL'⟩ := X
  rcases st with _ | ⟨v1, _ | ⟨v2, _ | ⟨v3, r⟩⟩⟩
  · exact Or.inl fun _ => rfl
  · cases v1 <;> exact Or.inl fun _ => rfl
  · cases v1 <;> cases v2 <;> exact Or.inl fun _ => rfl
  cases v1 <;> try exact Or.inl fun _ => rfl
  cases v2 <;> try exact Or.inl fun _ => rfl
  cases v3 <;> try exact Or.inl fun _ => rfl
  rename_i x i a
  rcases mj_wk_or w a with h | ⟨v, q0, h, hq, hst⟩
  · exact Or.inl fun k => h _
  rcases v with ⟨t, n, f | f | f⟩ | v
  · by_cases ht : t = t0
    · subst ht
      exact Or.inr ⟨vp_in i n :: (x = 0 ∨ x = 1) :: C, lv, r, w.set q0 (a, .inl (t, n, .inl (upd f i.toNatClampNeg x))), fun k => (h _).trans (by show (bif Nat.beq t t then _ else _) = _; rw [mj_bq]; exact hst _ _), fun h => h.2.2, fun hc cells slots kk ad H locs ls h0 hP hD hS hl =>
        va_zast hB.1 hB.2.1 hB.2.2.2.2.2.2.1 hP hD hS q0 t (mj_w_at hq) (mj_tys_at hG) hc.1 hd (fun H1 locs1 hP1 hD1 hS1 => kk ad H1 locs1 ls h0 (by rw [mj_w_set]; rw [mj_nar_b hc.2.1] at hP1; exact hP1) (by rw [mj_w_set]; rw [mj_nar_b hc.2.1] at hD1; exact hD1) hS1 hl)⟩
    · exact Or.inl fun k => (h _).trans (by show (bif Nat.beq t t0 then _ else _) = _; rw [mj_bn ht]; rfl)
  · exact Or.inl fun k => h _
  · exact Or.inl fun k => h _
  · exact Or.inl fun k => h _
def mj_rf : Option Nat → Value
  | some a => .ref a
  | none => .null
theorem mj_rf_v (ad : Nat → Nat) (o : Option Nat) : mj_v ad (mj_rf o) = va_rf (o.map ad) := by cases o <;> rfl
def x_aald (t0 : Nat) : mj_T := fun C lv st w k => match st with
  | .int i :: .ref a :: r => mj_lk w a fun e => match e with
    | .inl (t, n, .inr (.inr f)) => bif Nat.beq t t0 then k (vp_in i n :: C) lv (mj_rf (f.getD i.toNatClampNeg none) :: r) w else none
    | _ => none
  | _ => none
theorem mj_aald {t0 : Nat} {C0 : String} (hG : G.2.2[t0]? = some (.object C0)) (hd : decode cc pc = .ok (.aaload, 1)) : mj_Snd G (own, nm, cc, nL) pc (x_aald t0) (pc + 1) := by
  intro X hB C lv st w
  obtain ⟨p, l, e, R, s, m, args, below, meth, c, Q, D, cA, A, ad0, kp, nL'⟩ := X
  rcases st with _ | ⟨v1, _ | ⟨v2, r⟩⟩
  · exact Or.inl fun _ => rfl
  · cases v1 <;> exact Or.inl fun _ => rfl
  cases v1 <;> cases v2 <;> try exact Or.inl fun _ => rfl
  rename_i i a
  rcases mj_wk_or w a with h | ⟨v, q0, h, hq, -⟩
  · exact Or.inl fun k => h _
  rcases v with ⟨t, n, f | f | f⟩ | v
  · exact Or.inl fun k => h _
  · exact Or.inl fun k => h _
  · by_cases ht : t = t0
    · subst ht
      refine Or.inr ⟨vp_in i n :: C, lv, mj_rf (f.getD i.toNatClampNeg none) :: r, w, fun k => (h _).trans (by show (bif Nat.beq t t then _ else _) = _; rw [mj_bq]; rfl), fun h => h.2, fun hc cells slots kk ad H locs ls h0 hP hD hS hl => ?_⟩
      refine va_aldq hB.1 hB.2.1 hB.2.2.2.2.2.2.1 hP q0 t (mj_w_at hq) (mj_tys_at hG) hc.1 hd ?_
      have k2 := kk ad H locs ls h0 hP hD hS hl
      rw [List.map_cons, mj_rf_v] at k2
      exact k2
    · exact Or.inl fun k => (h _).trans (by show (bif Nat.beq t t0 then _ else _) = _; rw [mj_bn ht]; rfl)
  · exact Or.inl fun k => h _
end MJH
theorem mj_sub_w {ad : Nat → Nat} {cA : Nat → ClassId} {w w' : mj_M} {is : List Nat} (hs : is.map (fun i => w[i]?) = w'.map some) : is.map (fun i => (mj_w ad cA w)[i]?) = (mj_w ad cA w').map some := by
  have h1 : is.map (fun i => (mj_w ad cA w)[i]?) = (is.map (fun i => w[i]?)).map (Option.map (fun q => (ad q.1, mj_e ad cA q.2))) := by
    rw [List.map_map]
    apply List.map_congr_left
    intro i _
    simp [mj_w, List.getElem?_map]
  rw [h1, hs, List.map_map]
  simp [mj_w, List.map_map, Function.comp]
theorem mj_fm_of {α β : Type} {f : α → Option β} {is : List α} {l : List β} (h : is.map f = l.map some) : is.filterMap f = l := by
  induction is generalizing l with
  | nil => cases l with
    | nil => rfl
    | cons a l => cases h
  | cons i is ih => cases l with
    | nil => cases h
    | cons a l =>
      rw [List.map_cons, List.map_cons] at h
      injection h with h1 h2
      rw [List.filterMap_cons, h1, ih h2]
section MJB
variable {G : mj_G} {X : mj_X} {M : mj_Y} {cells slots pc : Nat} {lv : mj_L} {r : List Value} {w : mj_M}
theorem mj_ifeq (hB : mj_B G X M) {x : Int32} {off : Int} {tgt : Nat} (hd : decode M.2.2.1 pc = .ok (.ifCond .eq off, 3)) (ht : (pc : Int) + off = (tgt : Int)) (kt : (x = 0) → mj_W G X cells slots tgt lv r w) (kf : ¬ (x = 0) → mj_W G X cells slots (pc + 3) lv r w) : mj_W G X cells slots pc lv (.int x :: r) w := by
  obtain ⟨p, l, e, R, s, m, args, below, meth, c, Q, D, cA, A, ad0, kp, nL⟩ := X
  exact fun ad H locs ls h0 hP hD hS hl => lv_if_eq hB.1 hB.2.1 hd ht (fun h => kt h ad H locs ls h0 hP hD hS hl) (fun h => kf h ad H locs ls h0 hP hD hS hl)
theorem mj_ifne (hB : mj_B G X M) {x : Int32} {off : Int} {tgt : Nat} (hd : decode M.2.2.1 pc = .ok (.ifCond .ne off, 3)) (ht : (pc : Int) + off = (tgt : Int)) (kt : (¬ x = 0) → mj_W G X cells slots tgt lv r w) (kf : x = 0 → mj_W G X cells slots (pc + 3) lv r w) : mj_W G X cells slots pc lv (.int x :: r) w := by
  obtain ⟨p, l, e, R, s, m, args, below, meth, c, Q, D, cA, A, ad0, kp, nL⟩ := X
  exact fun ad H locs ls h0 hP hD hS hl => lv_if_ne hB.1 hB.2.1 hd ht (fun h => kt h ad H locs ls h0 hP hD hS hl) (fun h => kf h ad H locs ls h0 hP hD hS hl)
theorem mj_iflt (hB : mj_B G X M) {x : Int32} {off : Int} {tgt : Nat} (hd : decode M.2.2.1 pc = .ok (.ifCond .lt off, 3)) (ht : (pc : Int) + off = (tgt : Int)) (kt : (x < 0) → mj_W G X cells slots tgt lv r w) (kf : ¬ (x < 0) → mj_W G X cells slots (pc + 3) lv r w) : mj_W G X cells slots pc lv (.int x :: r) w := by
  obtain ⟨p, l, e, R, s, m, args, below, meth, c, Q, D, cA, A, ad0, kp, nL⟩ := X
  exact fun ad H locs ls h0 hP hD hS hl => lv_if_lt hB.1 hB.2.1 hd ht (fun h => kt h ad H locs ls h0 hP hD hS hl) (fun h => kf h ad H locs ls h0 hP hD hS hl)
theorem mj_ifge (hB : mj_B G X M) {x : Int32} {off : Int} {tgt : Nat} (hd : decode M.2.2.1 pc = .ok (.ifCond .ge off, 3)) (ht : (pc : Int) + off = (tgt : Int)) (kt : (0 ≤ x) → mj_W G X cells slots tgt lv r w) (kf : ¬ (0 ≤ x) → mj_W G X cells slots (pc + 3) lv r w) : mj_W G X cells slots pc lv (.int x :: r) w := by
  obtain ⟨p, l, e, R, s, m, args, below, meth, c, Q, D, cA, A, ad0, kp, nL⟩ := X
  exact fun ad H locs ls h0 hP hD hS hl => lv_if_ge hB.1 hB.2.1 hd ht (fun h => kt h ad H locs ls h0 hP hD hS hl) (fun h => kf h ad H locs ls h0 hP hD hS hl)
theorem mj_ifgt (hB : mj_B G X M) {x : Int32} {off : Int} {tgt : Nat} (hd : decode M.2.2.1 pc = .ok (.ifCond .gt off, 3)) (ht : (pc : Int) + off = (tgt : Int)) (kt : (0 < x) → mj_W G X cells slots tgt lv r w) (kf : ¬ (0 < x) → mj_W G X cells slots (pc + 3) lv r w) : mj_W G X cells slots pc lv (.int x :: r) w := by
  obtain ⟨p, l, e, R, s, m, args, below, meth, c, Q, D, cA, A, ad0, kp, nL⟩ := X
  exact fun ad H locs ls h0 hP hD hS hl => lv_if_gt hB.1 hB.2.1 hd ht (fun h => kt h ad H locs ls h0 hP hD hS hl) (fun h => kf h ad H locs ls h0 hP hD hS hl)
theorem mj_ifle (hB : mj_B G X M) {x : Int32} {off : Int} {tgt : Nat} (hd : decode M.2.2.1 pc = .ok (.ifCond .le off, 3)) (ht : (pc : Int) + off = (tgt : Int)) (kt : (x ≤ 0) → mj_W G X cells slots tgt lv r w) (kf : ¬ (x ≤ 0) → mj_W G X cells slots (pc + 3) lv r w) : mj_W G X cells slots pc lv (.int x :: r) w := by
  obtain ⟨p, l, e, R, s, m, args, below, meth, c, Q, D, cA, A, ad0, kp, nL⟩ := X
  exact fun ad H locs ls h0 hP hD hS hl => lv_if_le hB.1 hB.2.1 hd ht (fun h => kt h ad H locs ls h0 hP hD hS hl) (fun h => kf h ad H locs ls h0 hP hD hS hl)
theorem mj_iceq (hB : mj_B G X M) {x y : Int32} {off : Int} {tgt : Nat} (hd : decode M.2.2.1 pc = .ok (.if_icmp .eq off, 3)) (ht : (pc : Int) + off = (tgt : Int)) (kt : (x = y) → mj_W G X cells slots tgt lv r w) (kf : ¬ (x = y) → mj_W G X cells slots (pc + 3) lv r w) : mj_W G X cells slots pc lv (.int y :: .int x :: r) w := by
  obtain ⟨p, l, e, R, s, m, args, below, meth, c, Q, D, cA, A, ad0, kp, nL⟩ := X
  exact fun ad H locs ls h0 hP hD hS hl => lv_icmp_eq hB.1 hB.2.1 hd ht (fun h => kt h ad H locs ls h0 hP hD hS hl) (fun h => kf h ad H locs ls h0 hP hD hS hl)
theorem mj_icne (hB : mj_B G X M) {x y : Int32} {off : Int} {tgt : Nat} (hd : decode M.2.2.1 pc = .ok (.if_icmp .ne off, 3)) (ht : (pc : Int) + off = (tgt : Int)) (kt : (¬ x = y) → mj_W G X cells slots tgt lv r w) (kf : x = y → mj_W G X cells slots (pc + 3) lv r w) : mj_W G X cells slots pc lv (.int y :: .int x :: r) w := by
  obtain ⟨p, l, e, R, s, m, args, below, meth, c, Q, D, cA, A, ad0, kp, nL⟩ := X
  exact fun ad H locs ls h0 hP hD hS hl => lv_icmp_ne hB.1 hB.2.1 hd ht (fun h => kt h ad H locs ls h0 hP hD hS hl) (fun h => kf h ad H locs ls h0 hP hD hS hl)
theorem mj_iclt (hB : mj_B G X M) {x y : Int32} {off : Int} {tgt : Nat} (hd : decode M.2.2.1 pc = .ok (.if_icmp .lt off, 3)) (ht : (pc : Int) + off = (tgt : Int)) (kt : (x < y) → mj_W G X cells slots tgt lv r w) (kf : ¬ (x < y) → mj_W G X cells slots (pc + 3) lv r w) : mj_W G X cells slots pc lv (.int y :: .int x :: r) w := by
  obtain ⟨p, l, e, R, s, m, args, below, meth, c, Q, D, cA, A, ad0, kp, nL⟩ := X
  exact fun ad H locs ls h0 hP hD hS hl => lv_icmp_lt hB.1 hB.2.1 hd ht (fun h => kt h ad H locs ls h0 hP hD hS hl) (fun h => kf h ad H locs ls h0 hP hD hS hl)
theorem mj_icge (hB : mj_B G X M) {x y : Int32} {off : Int} {tgt : Nat} (hd : decode M.2.2.1 pc = .ok (.if_icmp .ge off, 3)) (ht : (pc : Int) + off = (tgt : Int)) (kt : (y ≤ x) → mj_W G X cells slots tgt lv r w) (kf : ¬ (y ≤ x) → mj_W G X cells slots (pc + 3) lv r w) : mj_W G X cells slots pc lv (.int y :: .int x :: r) w := by
  obtain ⟨p, l, e, R, s, m, args, below, meth, c, Q, D, cA, A, ad0, kp, nL⟩ := X
  exact fun ad H locs ls h0 hP hD hS hl => lv_icmp_ge hB.1 hB.2.1 hd ht (fun h => kt h ad H locs ls h0 hP hD hS hl) (fun h => kf h ad H locs ls h0 hP hD hS hl)
theorem mj_icgt (hB : mj_B G X M) {x y : Int32} {off : Int} {tgt : Nat} (hd : decode M.2.2.1 pc = .ok (.if_icmp .gt off, 3)) (ht : (pc : Int) + off = (tgt : Int)) (kt : (y < x) → mj_W G X cells slots tgt lv r w) (kf : ¬ (y < x) → mj_W G X cells slots (pc + 3) lv r w) : mj_W G X cells slots pc lv (.int y :: .int x :: r) w := by
  obtain ⟨p, l, e, R, s, m, args, below, meth, c, Q, D, cA, A, ad0, kp, nL⟩ := X
  exact fun ad H locs ls h0 hP hD hS hl => lv_icmp_gt hB.1 hB.2.1 hd ht (fun h => kt h ad H locs ls h0 hP hD hS hl) (fun h => kf h ad H locs ls h0 hP hD hS hl)
theorem mj_icle (hB : mj_B G X M) {x y : Int32} {off : Int} {tgt : Nat} (hd : decode M.2.2.1 pc = .ok (.if_icmp .le off, 3)) (ht : (pc : Int) + off = (tgt : Int)) (kt : (x ≤ y) → mj_W G X cells slots tgt lv r w) (kf : ¬ (x ≤ y) → mj_W G X cells slots (pc + 3) lv r w) : mj_W G X cells slots pc lv (.int y :: .int x :: r) w := by
  obtain ⟨p, l, e, R, s, m, args, below, meth, c, Q, D, cA, A, ad0, kp, nL⟩ := X
  exact fun ad H locs ls h0 hP hD hS hl => lv_icmp_le hB.1 hB.2.1 hd ht (fun h => kt h ad H locs ls h0 hP hD hS hl) (fun h => kf h ad H locs ls h0 hP hD hS hl)
theorem mj_ifnull_r (hB : mj_B G X M) {x : Nat} {off : Int} (hd : decode M.2.2.1 pc = .ok (.ifnull off, 3)) (kk : mj_W G X cells slots (pc + 3) lv r w) : mj_W G X cells slots pc lv (.ref x :: r) w := by
  obtain ⟨p, l, e, R, s, m, args, below, meth, c, Q, D, cA, A, ad0, kp, nL⟩ := X
  exact fun ad H locs ls h0 hP hD hS hl => lv_ifnull hB.1 hB.2.1 hd (kk ad H locs ls h0 hP hD hS hl)
theorem mj_ifnonnull_r (hB : mj_B G X M) {x : Nat} {off : Int} {tgt : Nat} (hd : decode M.2.2.1 pc = .ok (.ifnonnull off, 3)) (ht : (pc : Int) + off = (tgt : Int)) (kk : mj_W G X cells slots (tgt) lv r w) : mj_W G X cells slots pc lv (.ref x :: r) w := by
  obtain ⟨p, l, e, R, s, m, args, below, meth, c, Q, D, cA, A, ad0, kp, nL⟩ := X
  exact fun ad H locs ls h0 hP hD hS hl => lv_ifnonnull hB.1 hB.2.1 hd ht (kk ad H locs ls h0 hP hD hS hl)
theorem mj_ifnull_n (hB : mj_B G X M) {off : Int} {tgt : Nat} (hd : decode M.2.2.1 pc = .ok (.ifnull off, 3)) (ht : (pc : Int) + off = (tgt : Int)) (kk : mj_W G X cells slots (tgt) lv r w) : mj_W G X cells slots pc lv (.null :: r) w := by
  obtain ⟨p, l, e, R, s, m, args, below, meth, c, Q, D, cA, A, ad0, kp, nL⟩ := X
  exact fun ad H locs ls h0 hP hD hS hl => lv_ifnullN hB.1 hB.2.1 hd ht (kk ad H locs ls h0 hP hD hS hl)
theorem mj_ifnonnull_n (hB : mj_B G X M) {off : Int} (hd : decode M.2.2.1 pc = .ok (.ifnonnull off, 3)) (kk : mj_W G X cells slots (pc + 3) lv r w) : mj_W G X cells slots pc lv (.null :: r) w := by
  obtain ⟨p, l, e, R, s, m, args, below, meth, c, Q, D, cA, A, ad0, kp, nL⟩ := X
  exact fun ad H locs ls h0 hP hD hS hl => lv_ifnonnullN hB.1 hB.2.1 hd (kk ad H locs ls h0 hP hD hS hl)
theorem mj_widen {k n : Nat} (h1 : cells ≤ k) (h2 : slots ≤ n) {st : List Value} (kk : mj_W G X k n pc lv st w) : mj_W G X cells slots pc lv st w := by
  obtain ⟨p, l, e, R, s, m, args, below, meth, c, Q, D, cA, A, ad0, kp, nL⟩ := X
  exact fun ad H locs ls h0 hP hD hS hl => W.widen h1 h2 (kk ad H locs ls h0 hP hD hS hl)
/-- fewer listed locals -/
theorem mj_lsub {lv' : mj_L} {st : List Value} (hs : ∀ q ∈ lv', q ∈ lv) (kk : mj_W G X cells slots pc lv' st w) : mj_W G X cells slots pc lv st w := by
  obtain ⟨p, l, e, R, s, m, args, below, meth, c, Q, D, cA, A, ad0, kp, nL⟩ := X
  refine fun ad H locs ls h0 hP hD hS hl => kk ad H locs ls h0 hP hD hS ⟨hl.1, hl.2.1, fun q hq => ?_⟩
  obtain ⟨z, hz, rfl⟩ := List.mem_map.mp hq
  exact hl.2.2 _ (List.mem_map.mpr ⟨z, hs z hz, rfl⟩)
/-- fewer cells, in another order -/
theorem mj_wsub {w' : mj_M} {st : List Value} (is : List Nat) (hn : va_nd is = true) (hs : is.map (fun i => w[i]?) = w'.map some) (kk : mj_W G X cells slots pc lv st w') : mj_W G X cells slots pc lv st w := by
  obtain ⟨p, l, e, R, s, m, args, below, meth, c, Q, D, cA, A, ad0, kp, nL⟩ := X
  refine fun ad H locs ls h0 hP hD hS hl => kk ad H locs ls h0 (hP.sub is ?_) (hD.sub is hn ?_) hS hl
  · have h1 := mj_sub_w (ad := ad) (cA := cA) hs
    rw [show (fun i => (mj_w ad cA w)[i]?) = (fun i => (mj_w ad cA w)[i]?) from rfl]
    exact mj_fm_of h1
  · exact mj_sub_w hs
end MJB
/-! a method's start and end -/
abbrev mj_N : Type := MethodName × ByteArray × Nat × Option FieldType
abbrev mj_R : Type := Option Value → mj_M → Prop
def mj_Q (G : mj_G) (D : va_G) (cA : Nat → ClassId) (A : Nat → Prop) (ad : Nat → Nat) (kp : Nat → Prop) (post : mj_R) : Array Value → State → Outcome → State → Prop := fun _ st oc t =>
  (∃ (r : Option Value) (w' : mj_M) (ad' : Nat → Nat), (∀ q, kp q → ad' q = ad q) ∧ post r w' ∧ oc = .returned (r.map (mj_v ad')) ∧ va_P D G.1 (mj_w ad' cA w') t.heap ∧ va_K D G.1 (mj_tys cA G.2.2) t ∧ va_D A (mj_w ad' cA w')) ∧ va_F A st t
def mj_Ev (G : mj_G) (l : Launch) (D : va_G) (cA : Nat → ClassId) (Y : mj_N) (fr lo mc ms : Nat) (args : List Value) (w : mj_M) (kp : Nat → Prop) (post : mj_R) : Prop :=
  ∀ (ad : Nat → Nat) (sz : Nat), Met l Y.1 (Cond.code Y.1 Y.2.1 Y.2.2.1 Y.2.2.2 :: G.2.1) { frames := fr, cells := mc, slots := ms, locals := lo } (va_Pc (args.map (mj_v ad)) (fun U => U.heap.size = sz ∧ va_P D G.1 (mj_w ad cA w) U.heap ∧ va_K D G.1 (mj_tys cA G.2.2) U ∧ va_D (fun _ => True) (mj_w ad cA w))) (mj_Q G D cA (va_A (mj_w ad cA w) sz) ad kp post) mc ms (va_A (mj_w ad cA w) sz)
def mj_F (G : mj_G) (X : mj_X) (l : Launch) (D : va_G) (cA : Nat → ClassId) (ret : Option FieldType) (fr lo mc ms : Nat) (kp : Nat → Prop) (post : mj_R) : Prop := match X with
  | (_, l', _, R, s, _, args, below, meth, _, Q, D', cA', A, ad0, kp', _) => l' = l ∧ D' = D ∧ cA' = cA ∧ kp' = kp ∧ R.frames = fr ∧ R.cells = mc ∧ R.slots = ms ∧ R.locals = lo ∧ Q = MQ below (mj_Q G D cA A ad0 kp post) args s mc ms A ∧ meth.sig.returnType = ret ∧ meth.locks = false
def mj_E (G : mj_G) (X : mj_X) (l : Launch) (D : va_G) (cA : Nat → ClassId) (Y : mj_N) (fr lo mc ms : Nat) (kp : Nat → Prop) (post : mj_R) : Prop :=
  mj_B G X (Y.1.cls, Y.1.name, Y.2.1, Y.2.2.1) ∧ mj_F G X l D cA Y.2.2.2 fr lo mc ms kp post
theorem mj_sl_len (ad : Nat → Nat) (vs : List Value) : (lg_sl (vs.map (mj_v ad))).length = (lg_sl vs).length := by
  induction vs with
  | nil => rfl
  | cons v vs ih =>
    have h1 : ∀ (a : Value) (l : List Value), lg_sl (a :: l) = (if a.category = 2 then [Slot.val a, Slot.second] else [Slot.val a]) ++ lg_sl l := fun a l => by simp [lg_sl]
    rw [List.map_cons, h1, h1, List.length_append, List.length_append, ih, mj_v_cat]
    by_cases h : v.category = 2 <;> simp [h]
theorem mj_l_args (ad : Nat → Nat) (vs : List Value) (i : Nat) : mj_l ad (lv_args i vs) = lv_args i (vs.map (mj_v ad)) := by
  induction vs generalizing i with
  | nil => rfl
  | cons v vs ih =>
    show (i, mj_v ad v) :: mj_l ad (lv_args (if v.category = 2 then i + 2 else i + 1) vs) = (i, mj_v ad v) :: lv_args (if (mj_v ad v).category = 2 then i + 2 else i + 1) (vs.map (mj_v ad))
    rw [ih, mj_v_cat]
theorem mj_ev {G : mj_G} {l : Launch} {D : va_G} {cA : Nat → ClassId} {Y : mj_N} {fr lo mc ms : Nat} {args : List Value} {w : mj_M} {kp : Nat → Prop} {post : mj_R} {lv : mj_L} (hy : plainName Y.1.cls = true) (hlen : (lg_sl args).length ≤ Y.2.2.1) (hlv : lv_args 0 args = lv)
    (body : ∀ X : mj_X, mj_E G X l D cA Y fr lo mc ms kp post → mj_W G X 0 0 0 lv [] w) : mj_Ev G l D cA Y fr lo mc ms args w kp post := by
  intro ad sz
  refine Met.ofW (cc := Y.2.1) (maxL := Y.2.2.1) (ret := Y.2.2.2) hy rfl ?_
  intro p e s m args' below meth c s₁ B hml hv
  obtain ⟨rfl, hsz, hP, hK, hD0⟩ := hv
  have hts := atoms_spec (ws := Cond.code Y.1 Y.2.1 Y.2.2.1 Y.2.2.2 :: G.2.1) B.pre
  have hown := findClass_of_methodNamed B.named
  have hin := (name_of_methodNamed B.named B.method).1
  subst hsz
  have hD := hD0.self (sz := s.heap.size)
  have hA : ∀ q, s.heap.size ≤ q → va_A (mj_w ad cA w) s.heap.size q := fun q h => Or.inr h
  have hl := lv_entry (args.map (mj_v ad)) (n := Y.2.2.1) (by rw [mj_sl_len]; exact hlen)
  rw [lg_entry_eq]
  have hb := body (p, l, e, (headSpec (Cond.code Y.1 Y.2.1 Y.2.2.1 Y.2.2.2 :: G.2.1) { frames := fr, cells := mc, slots := ms, locals := lo }).room, s, m, (args.map (mj_v ad)).toArray, below, meth, c, MQ below (mj_Q G D cA (va_A (mj_w ad cA w) s.heap.size) ad kp post) (args.map (mj_v ad)).toArray s mc ms (va_A (mj_w ad cA w) s.heap.size), D, cA, va_A (mj_w ad cA w) s.heap.size, ad, kp, Y.2.2.1)
    ⟨⟨B.exec, B.bytes, hml, rfl, hown, fun w h => hts w (List.mem_cons_of_mem _ h), hK, hA, hin⟩, rfl, rfl, rfl, rfl, rfl, rfl, rfl, rfl, rfl, B.returns, B.notSynchronized⟩
  refine hb ad s.heap [] _ (fun _ _ => rfl) hP hD va_S.rf ?_
  rw [← hlv, mj_l_args]
  exact hl
section MJE
variable {G : mj_G} {X : mj_X} {l : Launch} {D : va_G} {cA : Nat → ClassId} {Y : mj_N} {fr lo mc ms : Nat} {kp : Nat → Prop} {post : mj_R} {cells slots pc : Nat} {lv : mj_L} {w : mj_M}
theorem mj_iret (h : mj_E G X l D cA Y fr lo mc ms kp post) {v : Int32} (hret : Y.2.2.2 = some .int) (hd : decode Y.2.1 pc = .ok (.ireturn, 1)) (hc : cells ≤ mc) (hs : slots ≤ ms) (hp : post (some (.int v)) w) : mj_W G X cells slots pc lv [.int v] w := by
  obtain ⟨p, l', e, R, s, m, args, below, meth, c, Q, D', cA', A, ad0, kp', nL⟩ := X
  obtain ⟨hB, rfl, rfl, rfl, rfl, -, -, -, -, hQ, hr, hlk⟩ := h
  subst hQ
  intro ad H locs ls h0 hP hD hS hl
  refine W.widen (k := mc) (n := ms) hc hs ?_
  exact W.iret hB.1 hB.2.1 (hr.trans hret) (fun t ht hW => ⟨⟨some (.int v), w, ad, h0, hp, rfl, by rw [ht]; exact hP, va_K.moved hW.alike hB.2.2.2.2.2.2.1, hD⟩, hS.F ht⟩) hS.2.2 hd hlk
theorem mj_zret (h : mj_E G X l D cA Y fr lo mc ms kp post) {v : Int32} (hret : Y.2.2.2 = some .boolean) (hv : v = 0 ∨ v = 1) (hd : decode Y.2.1 pc = .ok (.ireturn, 1)) (hc : cells ≤ mc) (hs : slots ≤ ms) (hp : post (some (.int v)) w) : mj_W G X cells slots pc lv [.int v] w := by
  obtain ⟨p, l', e, R, s, m, args, below, meth, c, Q, D', cA', A, ad0, kp', nL⟩ := X
  obtain ⟨hB, rfl, rfl, rfl, rfl, -, -, -, -, hQ, hr, hlk⟩ := h
  subst hQ
  intro ad H locs ls h0 hP hD hS hl
  refine W.widen (k := mc) (n := ms) hc hs ?_
  exact W.zret hB.1 hB.2.1 (hr.trans hret) (by rcases hv with h | h <;> (subst h; decide)) (fun t ht hW => ⟨⟨some (.int v), w, ad, h0, hp, rfl, by rw [ht]; exact hP, va_K.moved hW.alike hB.2.2.2.2.2.2.1, hD⟩, hS.F ht⟩) hS.2.2 hd hlk
theorem mj_vret (h : mj_E G X l D cA Y fr lo mc ms kp post) (hret : Y.2.2.2 = none) (hd : decode Y.2.1 pc = .ok (.return_, 1)) (hc : cells ≤ mc) (hs : slots ≤ ms) (hp : post none w) : mj_W G X cells slots pc lv [] w := by
  obtain ⟨p, l', e, R, s, m, args, below, meth, c, Q, D', cA', A, ad0, kp', nL⟩ := X
  obtain ⟨hB, rfl, rfl, rfl, rfl, -, -, -, -, hQ, hr, hlk⟩ := h
  subst hQ
  intro ad H locs ls h0 hP hD hS hl
  refine W.widen (k := mc) (n := ms) hc hs ?_
  exact W.vret hB.1 hB.2.1 (hr.trans hret) (fun t ht hW => ⟨⟨none, w, ad, h0, hp, rfl, by rw [ht]; exact hP, va_K.moved hW.alike hB.2.2.2.2.2.2.1, hD⟩, hS.F ht⟩) hS.2.2 hd hlk
theorem mj_aret (h : mj_E G X l D cA Y fr lo mc ms kp post) {v : Nat} {n : String} (hret : Y.2.2.2 = some (.object n)) (hd : decode Y.2.1 pc = .ok (.areturn, 1)) (hc : cells ≤ mc) (hs : slots ≤ ms) (hp : post (some (.ref v)) w) : mj_W G X cells slots pc lv [.ref v] w := by
  obtain ⟨p, l', e, R, s, m, args, below, meth, c, Q, D', cA', A, ad0, kp', nL⟩ := X
  obtain ⟨hB, rfl, rfl, rfl, rfl, -, -, -, -, hQ, hr, hlk⟩ := h
  subst hQ
  intro ad H locs ls h0 hP hD hS hl
  refine W.widen (k := mc) (n := ms) hc hs ?_
  exact W.aret hB.1 hB.2.1 (hr.trans hret) (Or.inl ⟨n, rfl⟩) (Or.inr ⟨ad v, rfl⟩) (fun t ht hW => ⟨⟨some (.ref v), w, ad, h0, hp, rfl, by rw [ht]; exact hP, va_K.moved hW.alike hB.2.2.2.2.2.2.1, hD⟩, hS.F ht⟩) hS.2.2 hd hlk
theorem mj_aretN (h : mj_E G X l D cA Y fr lo mc ms kp post) {n : String} (hret : Y.2.2.2 = some (.object n)) (hd : decode Y.2.1 pc = .ok (.areturn, 1)) (hc : cells ≤ mc) (hs : slots ≤ ms) (hp : post (some .null) w) : mj_W G X cells slots pc lv [.null] w := by
  obtain ⟨p, l', e, R, s, m, args, below, meth, c, Q, D', cA', A, ad0, kp', nL⟩ := X
  obtain ⟨hB, rfl, rfl, rfl, rfl, -, -, -, -, hQ, hr, hlk⟩ := h
  subst hQ
  intro ad H locs ls h0 hP hD hS hl
  refine W.widen (k := mc) (n := ms) hc hs ?_
  exact W.aret hB.1 hB.2.1 (hr.trans hret) (Or.inl ⟨n, rfl⟩) (Or.inl rfl) (fun t ht hW => ⟨⟨some .null, w, ad, h0, hp, rfl, by rw [ht]; exact hP, va_K.moved hW.alike hB.2.2.2.2.2.2.1, hD⟩, hS.F ht⟩) hS.2.2 hd hlk
end MJE
theorem mj_top {G : mj_G} {X : mj_X} {cells slots pc : Nat} {lv : mj_L} {r : List Value} {w : mj_M} {x y : Int32} (e : x = y) (kk : mj_W G X cells slots pc lv (.int y :: r) w) : mj_W G X cells slots pc lv (.int x :: r) w := e ▸ kk
theorem mj_ifeq0 {G : mj_G} {X : mj_X} {M : mj_Y} {cells slots pc : Nat} {lv : mj_L} {r : List Value} {w : mj_M} (hB : mj_B G X M) {off : Int} {tgt : Nat} (hd : decode M.2.2.1 pc = .ok (.ifCond .eq off, 3)) (ht : (pc : Int) + off = (tgt : Int)) (kt : mj_W G X cells slots tgt lv r w) : mj_W G X cells slots pc lv (.int 0 :: r) w := mj_ifeq hB hd ht (fun _ => kt) (fun h => absurd rfl h)
theorem mj_ifeq1 {G : mj_G} {X : mj_X} {M : mj_Y} {cells slots pc : Nat} {lv : mj_L} {r : List Value} {w : mj_M} (hB : mj_B G X M) {off : Int} {tgt : Nat} (hd : decode M.2.2.1 pc = .ok (.ifCond .eq off, 3)) (ht : (pc : Int) + off = (tgt : Int)) (kf : mj_W G X cells slots (pc + 3) lv r w) : mj_W G X cells slots pc lv (.int 1 :: r) w := mj_ifeq hB hd ht (fun h => absurd h (by decide)) (fun _ => kf)
theorem mj_ifne0 {G : mj_G} {X : mj_X} {M : mj_Y} {cells slots pc : Nat} {lv : mj_L} {r : List Value} {w : mj_M} (hB : mj_B G X M) {off : Int} {tgt : Nat} (hd : decode M.2.2.1 pc = .ok (.ifCond .ne off, 3)) (ht : (pc : Int) + off = (tgt : Int)) (kf : mj_W G X cells slots (pc + 3) lv r w) : mj_W G X cells slots pc lv (.int 0 :: r) w := mj_ifne hB hd ht (fun h => absurd rfl h) (fun _ => kf)
theorem mj_ifne1 {G : mj_G} {X : mj_X} {M : mj_Y} {cells slots pc : Nat} {lv : mj_L} {r : List Value} {w : mj_M} (hB : mj_B G X M) {off : Int} {tgt : Nat} (hd : decode M.2.2.1 pc = .ok (.ifCond .ne off, 3)) (ht : (pc : Int) + off = (tgt : Int)) (kt : mj_W G X cells slots tgt lv r w) : mj_W G X cells slots pc lv (.int 1 :: r) w := mj_ifne hB hd ht (fun _ => kt) (fun h => absurd h (by decide))
theorem mj_lpk {G : mj_G} {X : mj_X} {cells slots pc : Nat} {lv lv' : mj_L} {st : List Value} {w : mj_M} (ks : List Nat) (hl : ks.filterMap (fun k => lv[k]?) = lv') (kk : mj_W G X cells slots pc lv' st w) : mj_W G X cells slots pc lv st w :=
  mj_lsub (fun q hq => by
    rw [← hl] at hq
    obtain ⟨k, -, hk⟩ := List.mem_filterMap.mp hq
    exact List.mem_of_getElem? hk) kk
theorem mj_z01 {p : Prop} [Decidable p] : (if p then (1 : Int32) else 0) = 0 ∨ (if p then (1 : Int32) else 0) = 1 := by
  by_cases h : p
  · exact Or.inr (if_pos h)
  · exact Or.inl (if_neg h)
theorem mj_ifeqB {G : mj_G} {X : mj_X} {M : mj_Y} {cells slots pc : Nat} {lv : mj_L} {r : List Value} {w : mj_M} (hB : mj_B G X M) {P : Prop} [Decidable P] {off : Int} {tgt : Nat} (hd : decode M.2.2.1 pc = .ok (.ifCond .eq off, 3)) (ht : (pc : Int) + off = (tgt : Int)) (kt : ¬ P → mj_W G X cells slots tgt lv r w) (kf : P → mj_W G X cells slots (pc + 3) lv r w) : mj_W G X cells slots pc lv (.int (if P then 1 else 0) :: r) w :=
  mj_ifeq hB hd ht (fun h => kt (fun p => by rw [if_pos p] at h; exact absurd h (by decide))) (fun h => kf (Decidable.byContradiction fun p => h (if_neg p)))
theorem mj_ifneB {G : mj_G} {X : mj_X} {M : mj_Y} {cells slots pc : Nat} {lv : mj_L} {r : List Value} {w : mj_M} (hB : mj_B G X M) {P : Prop} [Decidable P] {off : Int} {tgt : Nat} (hd : decode M.2.2.1 pc = .ok (.ifCond .ne off, 3)) (ht : (pc : Int) + off = (tgt : Int)) (kt : P → mj_W G X cells slots tgt lv r w) (kf : ¬ P → mj_W G X cells slots (pc + 3) lv r w) : mj_W G X cells slots pc lv (.int (if P then 1 else 0) :: r) w :=
  mj_ifne hB hd ht (fun h => kt (Decidable.byContradiction fun p => h (if_neg p))) (fun h => kf (fun p => by rw [if_pos p] at h; exact absurd h (by decide)))
