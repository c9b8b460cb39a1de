/-! A small machine over worlds by places: a value's reference is a PLACE; 'ad' says at which address the place lies. Blocks of straight code are run by computation (mj_run); each instruction is sound (mj_Snd) over the kit's rows. -/
abbrev mj_C : Type := (Nat × Nat × ((Nat → Int32) ⊕ (Nat → Int64) ⊕ List (Option Nat))) ⊕ (Nat × List Value)
abbrev mj_M : Type := List (Nat × mj_C)
abbrev mj_L : Type := List (Nat × Value)
abbrev mj_S : Type := Option (List Prop × mj_L × List Value × mj_M)
abbrev mj_K : Type := List Prop → mj_L → List Value → mj_M → mj_S
abbrev mj_T : Type := List Prop → mj_L → List Value → mj_M → mj_K → mj_S
abbrev mj_G : Type := List vw_C × List Cond × List FieldType
def mj_al : List Prop → Prop
  | [] => True
  | c :: l => c ∧ mj_al l
def mj_v (ad : Nat → Nat) : Value → Value
  | .ref p => .ref (ad p)
  | v => v
def mj_e (ad : Nat → Nat) (cA : Nat → ClassId) : mj_C → va_E
  | .inl (t, n, .inl f) => .inl (cA t, n, .inl f)
  | .inl (t, n, .inr (.inl f)) => .inl (cA t, n, .inr (.inl f))
  | .inl (t, n, .inr (.inr l)) => .inl (cA t, n, .inr (.inr (.inr (.inr (fun j => (l.getD j none).map ad)))))
  | .inr (c, fs) => .inr (c, fs.map (mj_v ad))
def mj_w (ad : Nat → Nat) (cA : Nat → ClassId) (w : mj_M) : va_W := w.map (fun q => (ad q.1, mj_e ad cA q.2))
def mj_l (ad : Nat → Nat) (lv : mj_L) : mj_L := lv.map (fun q => (q.1, mj_v ad q.2))
def mj_tys (cA : Nat → ClassId) (tys : List FieldType) : List (ClassId × FieldType) := tys.mapIdx (fun t ty => (cA t, ty))
theorem mj_tys_at {cA : Nat → ClassId} {tys : List FieldType} {t : Nat} {ty : FieldType} (h : tys[t]? = some ty) : (mj_tys cA tys)[t]? = some (cA t, ty) := by
  simp [mj_tys, List.getElem?_mapIdx, h]
theorem mj_bq : ∀ n : Nat, Nat.beq n n = true
  | 0 => rfl
  | n + 1 => mj_bq n
theorem mj_bn {a b : Nat} (h : a ≠ b) : Nat.beq a b = false := by
  cases hb : Nat.beq a b with
  | false => rfl
  | true => exact absurd (Nat.eq_of_beq_eq_true hb) h
/-! looking up and laying, forced -/
def mj_lk {α β : Type} : List (Nat × α) → Nat → (α → Option β) → Option β
  | [], _, _ => none
  | (j, v) :: l, i, k => bif Nat.beq j i then k v else mj_lk l i k
def mj_st {β : Type} : mj_M → Nat → mj_C → (mj_M → Option β) → Option β
  | [], _, _, k => k []
  | (j, d) :: l, i, e, k => bif Nat.beq j i then k ((j, e) :: l) else mj_st l i e (fun l' => k ((j, d) :: l'))
theorem mj_lk_or {α β : Type} (l : List (Nat × α)) (i : Nat) : (∀ k : α → Option β, mj_lk l i k = none) ∨ ∃ (v : α) (q0 : Nat), (∀ k : α → Option β, mj_lk l i k = k v) ∧ l[q0]? = some (i, v) := by
  induction l with
  | nil => exact Or.inl fun _ => rfl
  | cons q l ih =>
    obtain ⟨qi, qv⟩ := q
    by_cases h : qi = i
    · subst h
      exact Or.inr ⟨qv, 0, fun k => by simp only [mj_lk, mj_bq, cond_true], rfl⟩
    · rcases ih with ih | ⟨v, q0, ih, hq⟩
      · exact Or.inl fun k => by rw [← ih k]; simp only [mj_lk, mj_bn h, cond_false]
      · exact Or.inr ⟨v, q0 + 1, fun k => by rw [← ih k]; simp only [mj_lk, mj_bn h, cond_false], hq⟩
theorem mj_wk_or {β : Type} (l : mj_M) (i : Nat) : (∀ k : mj_C → Option β, mj_lk l i k = none) ∨ ∃ (v : mj_C) (q0 : Nat), (∀ k : mj_C → Option β, mj_lk l i k = k v) ∧ l[q0]? = some (i, v) ∧ ∀ (e : mj_C) (k : mj_M → Option β), mj_st l i e k = k (l.set q0 (i, e)) := by
  induction l with
  | nil => exact Or.inl fun _ => rfl
  | cons q l ih =>
    obtain ⟨qi, qv⟩ := q
    by_cases h : qi = i
    · subst h
      exact Or.inr ⟨qv, 0, fun k => by simp only [mj_lk, mj_bq, cond_true], rfl, fun e k => by simp only [mj_st, mj_bq, cond_true, List.set_cons_zero]⟩
    · rcases ih with ih | ⟨v, q0, ih, hq, hs⟩
      · exact Or.inl fun k => by rw [← ih k]; simp only [mj_lk, mj_bn h, cond_false]
      · exact Or.inr ⟨v, q0 + 1, fun k => by rw [← ih k]; simp only [mj_lk, mj_bn h, cond_false], hq, fun e k => by simp only [mj_st, mj_bn h, cond_false, hs, List.set_cons_succ]⟩
def mj_nt {β : Type} : List Value → Nat → (Value → Option β) → Option β
  | [], _, _ => none
  | v :: _, 0, k => k v
  | _ :: l, n + 1, k => mj_nt l n k
theorem mj_nt_or {β : Type} (l : List Value) (n : Nat) : (∀ k : Value → Option β, mj_nt l n k = none) ∨ ∃ v : Value, (∀ k : Value → Option β, mj_nt l n k = k v) ∧ l[n]? = some v := by
  induction l generalizing n with
  | nil => exact Or.inl fun _ => rfl
  | cons v l ih =>
    cases n with
    | zero => exact Or.inr ⟨v, fun _ => rfl, rfl⟩
    | succ n =>
      rcases ih n with h | ⟨x, h, hx⟩
      · exact Or.inl fun k => h k
      · exact Or.inr ⟨x, fun k => h k, hx⟩
def mj_ns {β : Type} : List Value → Nat → Value → (List Value → Option β) → Option β
  | [], _, _, k => k []
  | _ :: l, 0, x, k => k (x :: l)
  | y :: l, n + 1, x, k => mj_ns l n x (fun l' => k (y :: l'))
theorem mj_ns_eq {β : Type} (l : List Value) (n : Nat) (x : Value) (k : List Value → Option β) : mj_ns l n x k = k (l.set n x) := by
  induction l generalizing n k with
  | nil => rfl
  | cons v l ih =>
    cases n with
    | zero => rfl
    | succ n => simp only [mj_ns, ih, List.set_cons_succ]
def mj_fi {β : Type} (p : Nat × Value → Bool) : mj_L → (mj_L → Option β) → Option β
  | [], k => k []
  | q :: l, k => bif p q then mj_fi p l (fun l' => k (q :: l')) else mj_fi p l k
theorem mj_fi_eq {β : Type} (p : Nat × Value → Bool) (l : mj_L) (k : mj_L → Option β) : mj_fi p l k = k (l.filter p) := by
  induction l generalizing k with
  | nil => rfl
  | cons q l ih =>
    cases h : p q with
    | true => simp only [mj_fi, h, cond_true, ih, List.filter_cons_of_pos h]
    | false => simp only [mj_fi, h, cond_false, ih, List.filter_cons_of_neg (show ¬ p q = true by rw [h]; exact Bool.false_ne_true)]
def mj_p1 (i : Nat) (q : Nat × Value) : Bool := !(Nat.beq q.1 i) && !(Nat.beq (q.1 + 1) i && Nat.beq q.2.category 2)
def mj_p2 (i : Nat) (q : Nat × Value) : Bool := !(Nat.beq q.1 i) && (!(Nat.beq q.1 (i + 1)) && !(Nat.beq (q.1 + 1) i && Nat.beq q.2.category 2))
theorem mj_beq (a b : Nat) : (a == b) = Nat.beq a b := by
  by_cases h : a = b
  · subst h
    rw [mj_bq]
    exact beq_self_eq_true a
  · rw [mj_bn h]
    exact beq_false_of_ne h
theorem mj_v_cat (ad : Nat → Nat) (v : Value) : (mj_v ad v).category = v.category := by cases v <;> rfl
theorem mj_l_p1 (ad : Nat → Nat) (lv : mj_L) (i : Nat) : (mj_l ad lv).filter (fun q => !(q.1 == i) && !(q.1 + 1 == i && q.2.category == 2)) = mj_l ad (lv.filter (mj_p1 i)) := by
  unfold mj_l
  rw [List.filter_map]
  congr 1
  apply List.filter_congr
  intro q _
  simp only [Function.comp, mj_v_cat, mj_p1, mj_beq]
theorem mj_l_p2 (ad : Nat → Nat) (lv : mj_L) (i : Nat) : (mj_l ad lv).filter (fun q => !(q.1 == i) && (!(q.1 == i + 1) && !(q.1 + 1 == i && q.2.category == 2))) = mj_l ad (lv.filter (mj_p2 i)) := by
  unfold mj_l
  rw [List.filter_map]
  congr 1
  apply List.filter_congr
  intro q _
  simp only [Function.comp, mj_v_cat, mj_p2, mj_beq]
theorem mj_l_at {ad : Nat → Nat} {lv : mj_L} {q0 i : Nat} {v : Value} (h : lv[q0]? = some (i, v)) : (mj_l ad lv)[q0]? = some (i, mj_v ad v) := by
  simp [mj_l, List.getElem?_map, h]
theorem mj_w_at {ad : Nat → Nat} {cA : Nat → ClassId} {w : mj_M} {q0 i : Nat} {v : mj_C} (h : w[q0]? = some (i, v)) : (mj_w ad cA w)[q0]? = some (ad i, mj_e ad cA v) := by
  simp [mj_w, List.getElem?_map, h]
theorem mj_w_set {ad : Nat → Nat} {cA : Nat → ClassId} {w : mj_M} {q0 i : Nat} {v : mj_C} : mj_w ad cA (w.set q0 (i, v)) = (mj_w ad cA w).set q0 (ad i, mj_e ad cA v) := by
  simp [mj_w, List.map_set]
/-! the walk's judgement -/
abbrev mj_X := Program × Launch × Env × Room × State × MethodId × Array Value × List Frame × Method × Code × (State → Prop) × va_G × (Nat → ClassId) × (Nat → Prop) × (Nat → Nat) × (Nat → Prop) × Nat
abbrev mj_Y : Type := String × String × ByteArray × Nat
def mj_W (G : mj_G) (X : mj_X) (cells slots pc : Nat) (lv : mj_L) (st : List Value) (w : mj_M) : Prop := match X with
  | (p, l, e, R, s, m, args, below, meth, c, Q, D, cA, A, ad0, kp, nL) =>
    ∀ (ad : Nat → Nat) (H : Heap) (locs : List Loc) (ls : Array Slot), (∀ q, kp q → ad q = ad0 q) → va_P D G.1 (mj_w ad cA w) H → va_D A (mj_w ad cA w) → va_S A s.heap H locs → lv_has ls nL (mj_l ad lv) →
      W p l e R s m args below meth c H locs cells slots Q (F0 m pc ls (st.map (mj_v ad)))
def mj_B (G : mj_G) (X : mj_X) (M : mj_Y) : Prop := match X with
  | (p, l, e, R, s, m, args, below, meth, c, Q, D, cA, A, ad0, kp, nL) =>
    p.tables.exec = Jvm.exec ∧ c.code = M.2.2.1 ∧ c.maxLocals = nL ∧ nL = M.2.2.2 ∧ s.vm.findClass M.1 = some m.cls ∧ (∀ w ∈ G.2.1, w.before args s = true) ∧ va_K D G.1 (mj_tys cA G.2.2) s ∧ (∀ q, s.heap.size ≤ q → A q) ∧ meth.name = M.2.1
def mj_Snd (G : mj_G) (M : mj_Y) (pc : Nat) (f : mj_T) (pc' : Nat) : Prop :=
  ∀ X : mj_X, mj_B G X M → ∀ (C : List Prop) (lv : mj_L) (st : List Value) (w : mj_M), (∀ k, f C lv st w k = none) ∨
    ∃ (C' : List Prop) (lv' : mj_L) (st' : List Value) (w' : mj_M), (∀ k, f C lv st w k = k C' lv' st' w') ∧ (mj_al C' → mj_al C) ∧ (mj_al C' → ∀ cells slots : Nat, mj_W G X cells slots pc' lv' st' w' → mj_W G X cells slots pc lv st w)
def mj_run : List mj_T → List Prop → mj_L → List Value → mj_M → mj_S
  | [], C, lv, st, w => some (C, lv, st, w)
  | f :: fs, C, lv, st, w => f C lv st w (mj_run fs)
def mj_Ch (G : mj_G) (M : mj_Y) : Nat → List mj_T → Nat → Prop
  | pc, [], pc' => pc = pc'
  | pc, f :: fs, pc' => ∃ mid, mj_Snd G M pc f mid ∧ mj_Ch G M mid fs pc'
theorem mj_blk0 {G : mj_G} {M : mj_Y} {X : mj_X} (hB : mj_B G X M) (cells slots : Nat) : ∀ (B : List mj_T) (pc pc' : Nat) (C0 C : List Prop) (lv lv' : mj_L) (st st' : List Value) (w w' : mj_M), mj_Ch G M pc B pc' → mj_run B C0 lv st w = some (C, lv', st', w') →
    mj_al C → mj_W G X cells slots pc' lv' st' w' → mj_al C0 ∧ mj_W G X cells slots pc lv st w := by
  intro B
  induction B with
  | nil =>
    intro pc pc' C0 C lv lv' st st' w w' hch hr hC kk
    have hch : pc = pc' := hch
    subst hch
    have hr : some (C0, lv, st, w) = some (C, lv', st', w') := hr
    injection hr with hr
    injection hr with e1 e2
    injection e2 with e2 e3
    injection e3 with e3 e4
    subst e1 e2 e3 e4
    exact ⟨hC, kk⟩
  | cons f fs ih =>
    intro pc pc' C0 C lv lv' st st' w w' hch hr hC kk
    obtain ⟨mid, hs, hch⟩ := hch
    rcases hs X hB C0 lv st w with h | ⟨C1, lv1, st1, w1, h, h1, h2⟩
    · have e1 : mj_run (f :: fs) C0 lv st w = none := h _
      rw [e1] at hr
      cases hr
    · have e1 : mj_run (f :: fs) C0 lv st w = mj_run fs C1 lv1 st1 w1 := h _
      rw [e1] at hr
      obtain ⟨a, b⟩ := ih mid pc' C1 C lv1 lv' st1 st' w1 w' hch hr hC kk
      exact ⟨h1 a, h2 a cells slots b⟩
theorem mj_blk {G : mj_G} {M : mj_Y} {X : mj_X} (hB : mj_B G X M) {B : List mj_T} {cells slots pc pc' : Nat} (hch : mj_Ch G M pc B pc') {lv : mj_L} {st : List Value} {w : mj_M} {C : List Prop} {lv' : mj_L} {st' : List Value} {w' : mj_M}
    (hr : mj_run B [] lv st w = some (C, lv', st', w')) (hC : mj_al C) (kk : mj_W G X cells slots pc' lv' st' w') : mj_W G X cells slots pc lv st w :=
  (mj_blk0 hB cells slots B pc pc' [] C lv lv' st st' w w' hch hr hC kk).2
/-! the instructions -/
section MJO
variable {G : mj_G} {own nm : String} {cc : ByteArray} {nL pc : Nat}
def x_iadd : mj_T := fun C lv st w k => match st with
  | .int y :: .int x :: r => k (C) lv (.int (x + y) :: r) w
  | _ => none
theorem mj_iadd (hd : decode cc pc = .ok (.iadd, 1)) : mj_Snd G (own, nm, cc, nL) pc (x_iadd) (pc + 1) := by
  intro X hB C lv st w
  obtain ⟨p, l, e, R, s, m, args, below, meth, c, Q, D, cA, A, ad0, kp, nL'⟩ := X
  rcases st with _ | ⟨v1, _ | ⟨v2, r⟩⟩
  · exact Or.inl fun _ => rfl
  · cases v1 <;> exact Or.inl fun _ => rfl
  cases v1 <;> cases v2 <;> first | exact Or.inl (fun _ => rfl) | exact Or.inr ⟨_, lv, _, w, fun _ => rfl, id, fun hc cells slots kk ad H locs ls h0 hP hD hS hl => lv_iadd hB.1 hB.2.1 hd (kk ad H locs ls h0 hP hD hS hl)⟩
def x_isub : mj_T := fun C lv st w k => match st with
  | .int y :: .int x :: r => k (C) lv (.int (x - y) :: r) w
  | _ => none
theorem mj_isub (hd : decode cc pc = .ok (.isub, 1)) : mj_Snd G (own, nm, cc, nL) pc (x_isub) (pc + 1) := by
  intro X hB C lv st w
  obtain ⟨p, l, e, R, s, m, args, below, meth, c, Q, D, cA, A, ad0, kp, nL'⟩ := X
  rcases st with _ | ⟨v1, _ | ⟨v2, r⟩⟩
  · exact Or.inl fun _ => rfl
  · cases v1 <;> exact Or.inl fun _ => rfl
  cases v1 <;> cases v2 <;> first | exact Or.inl (fun _ => rfl) | exact Or.inr ⟨_, lv, _, w, fun _ => rfl, id, fun hc cells slots kk ad H locs ls h0 hP hD hS hl => lv_isub hB.1 hB.2.1 hd (kk ad H locs ls h0 hP hD hS hl)⟩
def x_imul : mj_T := fun C lv st w k => match st with
  | .int y :: .int x :: r => k (C) lv (.int (x * y) :: r) w
  | _ => none
theorem mj_imul (hd : decode cc pc = .ok (.imul, 1)) : mj_Snd G (own, nm, cc, nL) pc (x_imul) (pc + 1) := by
  intro X hB C lv st w
  obtain ⟨p, l, e, R, s, m, args, below, meth, c, Q, D, cA, A, ad0, kp, nL'⟩ := X
  rcases st with _ | ⟨v1, _ | ⟨v2, r⟩⟩
  · exact Or.inl fun _ => rfl
  · cases v1 <;> exact Or.inl fun _ => rfl
  cases v1 <;> cases v2 <;> first | exact Or.inl (fun _ => rfl) | exact Or.inr ⟨_, lv, _, w, fun _ => rfl, id, fun hc cells slots kk ad H locs ls h0 hP hD hS hl => lv_imul hB.1 hB.2.1 hd (kk ad H locs ls h0 hP hD hS hl)⟩
def x_iand : mj_T := fun C lv st w k => match st with
  | .int y :: .int x :: r => k (C) lv (.int (x &&& y) :: r) w
  | _ => none
theorem mj_iand (hd : decode cc pc = .ok (.iand, 1)) : mj_Snd G (own, nm, cc, nL) pc (x_iand) (pc + 1) := by
  intro X hB C lv st w
  obtain ⟨p, l, e, R, s, m, args, below, meth, c, Q, D, cA, A, ad0, kp, nL'⟩ := X
  rcases st with _ | ⟨v1, _ | ⟨v2, r⟩⟩
  · exact Or.inl fun _ => rfl
  · cases v1 <;> exact Or.inl fun _ => rfl
  cases v1 <;> cases v2 <;> first | exact Or.inl (fun _ => rfl) | exact Or.inr ⟨_, lv, _, w, fun _ => rfl, id, fun hc cells slots kk ad H locs ls h0 hP hD hS hl => lv_iand hB.1 hB.2.1 hd (kk ad H locs ls h0 hP hD hS hl)⟩
def x_ior : mj_T := fun C lv st w k => match st with
  | .int y :: .int x :: r => k (C) lv (.int (x ||| y) :: r) w
  | _ => none
theorem mj_ior (hd : decode cc pc = .ok (.ior, 1)) : mj_Snd G (own, nm, cc, nL) pc (x_ior) (pc + 1) := by
  intro X hB C lv st w
  obtain ⟨p, l, e, R, s, m, args, below, meth, c, Q, D, cA, A, ad0, kp, nL'⟩ := X
  rcases st with _ | ⟨v1, _ | ⟨v2, r⟩⟩
  · exact Or.inl fun _ => rfl
  · cases v1 <;> exact Or.inl fun _ => rfl
  cases v1 <;> cases v2 <;> first | exact Or.inl (fun _ => rfl) | exact Or.inr ⟨_, lv, _, w, fun _ => rfl, id, fun hc cells slots kk ad H locs ls h0 hP hD hS hl => lv_ior hB.1 hB.2.1 hd (kk ad H locs ls h0 hP hD hS hl)⟩
def x_ixor : mj_T := fun C lv st w k => match st with
  | .int y :: .int x :: r => k (C) lv (.int (x ^^^ y) :: r) w
  | _ => none
theorem mj_ixor (hd : decode cc pc = .ok (.ixor, 1)) : mj_Snd G (own, nm, cc, nL) pc (x_ixor) (pc + 1) := by
  intro X hB C lv st w
  obtain ⟨p, l, e, R, s, m, args, below, meth, c, Q, D, cA, A, ad0, kp, nL'⟩ := X
  rcases st with _ | ⟨v1, _ | ⟨v2, r⟩⟩
  · exact Or.inl fun _ => rfl
  · cases v1 <;> exact Or.inl fun _ => rfl
  cases v1 <;> cases v2 <;> first | exact Or.inl (fun _ => rfl) | exact Or.inr ⟨_, lv, _, w, fun _ => rfl, id, fun hc cells slots kk ad H locs ls h0 hP hD hS hl => lv_ixor hB.1 hB.2.1 hd (kk ad H locs ls h0 hP hD hS hl)⟩
def x_ishl : mj_T := fun C lv st w k => match st with
  | .int y :: .int x :: r => k (C) lv (.int (x <<< (y &&& 31)) :: r) w
  | _ => none
theorem mj_ishl (hd : decode cc pc = .ok (.ishl, 1)) : mj_Snd G (own, nm, cc, nL) pc (x_ishl) (pc + 1) := by
  intro X hB C lv st w
  obtain ⟨p, l, e, R, s, m, args, below, meth, c, Q, D, cA, A, ad0, kp, nL'⟩ := X
  rcases st with _ | ⟨v1, _ | ⟨v2, r⟩⟩
  · exact Or.inl fun _ => rfl
  · cases v1 <;> exact Or.inl fun _ => rfl
  cases v1 <;> cases v2 <;> first | exact Or.inl (fun _ => rfl) | exact Or.inr ⟨_, lv, _, w, fun _ => rfl, id, fun hc cells slots kk ad H locs ls h0 hP hD hS hl => lv_ishl hB.1 hB.2.1 hd (kk ad H locs ls h0 hP hD hS hl)⟩
def x_ishr : mj_T := fun C lv st w k => match st with
  | .int y :: .int x :: r => k (C) lv (.int (x >>> (y &&& 31)) :: r) w
  | _ => none
theorem mj_ishr (hd : decode cc pc = .ok (.ishr, 1)) : mj_Snd G (own, nm, cc, nL) pc (x_ishr) (pc + 1) := by
  intro X hB C lv st w
  obtain ⟨p, l, e, R, s, m, args, below, meth, c, Q, D, cA, A, ad0, kp, nL'⟩ := X
  rcases st with _ | ⟨v1, _ | ⟨v2, r⟩⟩
  · exact Or.inl fun _ => rfl
  · cases v1 <;> exact Or.inl fun _ => rfl
  cases v1 <;> cases v2 <;> first | exact Or.inl (fun _ => rfl) | exact Or.inr ⟨_, lv, _, w, fun _ => rfl, id, fun hc cells slots kk ad H locs ls h0 hP hD hS hl => lv_ishr hB.1 hB.2.1 hd (kk ad H locs ls h0 hP hD hS hl)⟩
def x_iushr : mj_T := fun C lv st w k => match st with
  | .int y :: .int x :: r => k (C) lv (.int ((x.toUInt32 >>> (y.toUInt32 &&& Int32.toUInt32 31)).toInt32) :: r) w
  | _ => none
theorem mj_iushr (hd : decode cc pc = .ok (.iushr, 1)) : mj_Snd G (own, nm, cc, nL) pc (x_iushr) (pc + 1) := by
  intro X hB C lv st w
  obtain ⟨p, l, e, R, s, m, args, below, meth, c, Q, D, cA, A, ad0, kp, nL'⟩ := X
  rcases st with _ | ⟨v1, _ | ⟨v2, r⟩⟩
  · exact Or.inl fun _ => rfl
  · cases v1 <;> exact Or.inl fun _ => rfl
  cases v1 <;> cases v2 <;> first | exact Or.inl (fun _ => rfl) | exact Or.inr ⟨_, lv, _, w, fun _ => rfl, id, fun hc cells slots kk ad H locs ls h0 hP hD hS hl => lv_iushr hB.1 hB.2.1 hd rfl (kk ad H locs ls h0 hP hD hS hl)⟩
def x_idiv : mj_T := fun C lv st w k => match st with
  | .int y :: .int x :: r => k ((¬ y = 0) :: C) lv (.int (x / y) :: r) w
  | _ => none
theorem mj_idiv (hd : decode cc pc = .ok (.idiv, 1)) : mj_Snd G (own, nm, cc, nL) pc (x_idiv) (pc + 1) := by
  intro X hB C lv st w
  obtain ⟨p, l, e, R, s, m, args, below, meth, c, Q, D, cA, A, ad0, kp, nL'⟩ := X
  rcases st with _ | ⟨v1, _ | ⟨v2, r⟩⟩
  · exact Or.inl fun _ => rfl
  · cases v1 <;> exact Or.inl fun _ => rfl
  cases v1 <;> cases v2 <;> first | exact Or.inl (fun _ => rfl) | exact Or.inr ⟨_, lv, _, w, fun _ => rfl, fun h => h.2, fun hc cells slots kk ad H locs ls h0 hP hD hS hl => lv_idiv hB.1 hB.2.1 hd hc.1 (kk ad H locs ls h0 hP hD hS hl)⟩
def x_irem : mj_T := fun C lv st w k => match st with
  | .int y :: .int x :: r => k ((¬ y = 0) :: C) lv (.int (x - x / y * y) :: r) w
  | _ => none
theorem mj_irem (hd : decode cc pc = .ok (.irem, 1)) : mj_Snd G (own, nm, cc, nL) pc (x_irem) (pc + 1) := by
  intro X hB C lv st w
  obtain ⟨p, l, e, R, s, m, args, below, meth, c, Q, D, cA, A, ad0, kp, nL'⟩ := X
  rcases st with _ | ⟨v1, _ | ⟨v2, r⟩⟩
  · exact Or.inl fun _ => rfl
  · cases v1 <;> exact Or.inl fun _ => rfl
  cases v1 <;> cases v2 <;> first | exact Or.inl (fun _ => rfl) | exact Or.inr ⟨_, lv, _, w, fun _ => rfl, fun h => h.2, fun hc cells slots kk ad H locs ls h0 hP hD hS hl => lv_irem hB.1 hB.2.1 hd hc.1 (kk ad H locs ls h0 hP hD hS hl)⟩
def x_ineg : mj_T := fun C lv st w k => match st with
  | .int x :: r => k (C) lv (.int (-x) :: r) w
  | _ => none
theorem mj_ineg (hd : decode cc pc = .ok (.ineg, 1)) : mj_Snd G (own, nm, cc, nL) pc (x_ineg) (pc + 1) := by
  intro X hB C lv st w
  obtain ⟨p, l, e, R, s, m, args, below, meth, c, Q, D, cA, A, ad0, kp, nL'⟩ := X
  rcases st with _ | ⟨v1, r⟩
  · exact Or.inl fun _ => rfl
  cases v1 <;> first | exact Or.inl (fun _ => rfl) | exact Or.inr ⟨_, lv, _, w, fun _ => rfl, id, fun hc cells slots kk ad H locs ls h0 hP hD hS hl => lv_ineg hB.1 hB.2.1 hd (kk ad H locs ls h0 hP hD hS hl)⟩
def x_land : mj_T := fun C lv st w k => match st with
  | .long y :: .long x :: r => k (C) lv (.long (x &&& y) :: r) w
  | _ => none
theorem mj_land (hd : decode cc pc = .ok (.land, 1)) : mj_Snd G (own, nm, cc, nL) pc (x_land) (pc + 1) := by
  intro X hB C lv st w
  obtain ⟨p, l, e, R, s, m, args, below, meth, c, Q, D, cA, A, ad0, kp, nL'⟩ := X
  rcases st with _ | ⟨v1, _ | ⟨v2, r⟩⟩
  · exact Or.inl fun _ => rfl
  · cases v1 <;> exact Or.inl fun _ => rfl
  cases v1 <;> cases v2 <;> first | exact Or.inl (fun _ => rfl) | exact Or.inr ⟨_, lv, _, w, fun _ => rfl, id, fun hc cells slots kk ad H locs ls h0 hP hD hS hl => lv_land hB.1 hB.2.1 hd (kk ad H locs ls h0 hP hD hS hl)⟩
def x_lor : mj_T := fun C lv st w k => match st with
  | .long y :: .long x :: r => k (C) lv (.long (x ||| y) :: r) w
  | _ => none
theorem mj_lor (hd : decode cc pc = .ok (.lor, 1)) : mj_Snd G (own, nm, cc, nL) pc (x_lor) (pc + 1) := by
  intro X hB C lv st w
  obtain ⟨p, l, e, R, s, m, args, below, meth, c, Q, D, cA, A, ad0, kp, nL'⟩ := X
  rcases st with _ | ⟨v1, _ | ⟨v2, r⟩⟩
  · exact Or.inl fun _ => rfl
  · cases v1 <;> exact Or.inl fun _ => rfl
  cases v1 <;> cases v2 <;> first | exact Or.inl (fun _ => rfl) | exact Or.inr ⟨_, lv, _, w, fun _ => rfl, id, fun hc cells slots kk ad H locs ls h0 hP hD hS hl => lv_lor hB.1 hB.2.1 hd (kk ad H locs ls h0 hP hD hS hl)⟩
def x_lshl : mj_T := fun C lv st w k => match st with
  | .int y :: .long x :: r => k (C) lv (.long (x <<< (y.toInt64 &&& 63)) :: r) w
  | _ => none
theorem mj_lshl (hd : decode cc pc = .ok (.lshl, 1)) : mj_Snd G (own, nm, cc, nL) pc (x_lshl) (pc + 1) := by
  intro X hB C lv st w
  obtain ⟨p, l, e, R, s, m, args, below, meth, c, Q, D, cA, A, ad0, kp, nL'⟩ := X
  rcases st with _ | ⟨v1, _ | ⟨v2, r⟩⟩
  · exact Or.inl fun _ => rfl
  · cases v1 <;> exact Or.inl fun _ => rfl
  cases v1 <;> cases v2 <;> first | exact Or.inl (fun _ => rfl) | exact Or.inr ⟨_, lv, _, w, fun _ => rfl, id, fun hc cells slots kk ad H locs ls h0 hP hD hS hl => lv_lshl hB.1 hB.2.1 hd rfl (kk ad H locs ls h0 hP hD hS hl)⟩
def x_lshr : mj_T := fun C lv st w k => match st with
  | .int y :: .long x :: r => k (C) lv (.long (x >>> (y.toInt64 &&& 63)) :: r) w
  | _ => none
theorem mj_lshr (hd : decode cc pc = .ok (.lshr, 1)) : mj_Snd G (own, nm, cc, nL) pc (x_lshr) (pc + 1) := by
  intro X hB C lv st w
  obtain ⟨p, l, e, R, s, m, args, below, meth, c, Q, D, cA, A, ad0, kp, nL'⟩ := X
  rcases st with _ | ⟨v1, _ | ⟨v2, r⟩⟩
  · exact Or.inl fun _ => rfl
  · cases v1 <;> exact Or.inl fun _ => rfl
  cases v1 <;> cases v2 <;> first | exact Or.inl (fun _ => rfl) | exact Or.inr ⟨_, lv, _, w, fun _ => rfl, id, fun hc cells slots kk ad H locs ls h0 hP hD hS hl => lv_lshr hB.1 hB.2.1 hd rfl (kk ad H locs ls h0 hP hD hS hl)⟩
def x_lushr : mj_T := fun C lv st w k => match st with
  | .int y :: .long x :: r => k (C) lv (.long ((x.toUInt64 >>> (y.toInt64.toUInt64 &&& Int64.toUInt64 63)).toInt64) :: r) w
  | _ => none
theorem mj_lushr (hd : decode cc pc = .ok (.lushr, 1)) : mj_Snd G (own, nm, cc, nL) pc (x_lushr) (pc + 1) := by
  intro X hB C lv st w
  obtain ⟨p, l, e, R, s, m, args, below, meth, c, Q, D, cA, A, ad0, kp, nL'⟩ := X
  rcases st with _ | ⟨v1, _ | ⟨v2, r⟩⟩
  · exact Or.inl fun _ => rfl
  · cases v1 <;> exact Or.inl fun _ => rfl
  cases v1 <;> cases v2 <;> first | exact Or.inl (fun _ => rfl) | exact Or.inr ⟨_, lv, _, w, fun _ => rfl, id, fun hc cells slots kk ad H locs ls h0 hP hD hS hl => lv_lushr hB.1 hB.2.1 hd rfl (kk ad H locs ls h0 hP hD hS hl)⟩
def x_lcmp : mj_T := fun C lv st w k => match st with
  | .long y :: .long x :: r => k (C) lv (.int (lg_cmp x y) :: r) w
  | _ => none
theorem mj_lcmp (hd : decode cc pc = .ok (.lcmp, 1)) : mj_Snd G (own, nm, cc, nL) pc (x_lcmp) (pc + 1) := by
  intro X hB C lv st w
  obtain ⟨p, l, e, R, s, m, args, below, meth, c, Q, D, cA, A, ad0, kp, nL'⟩ := X
  rcases st with _ | ⟨v1, _ | ⟨v2, r⟩⟩
  · exact Or.inl fun _ => rfl
  · cases v1 <;> exact Or.inl fun _ => rfl
  cases v1 <;> cases v2 <;> first | exact Or.inl (fun _ => rfl) | exact Or.inr ⟨_, lv, _, w, fun _ => rfl, id, fun hc cells slots kk ad H locs ls h0 hP hD hS hl => W.lcmp hB.1 hB.2.1 hd (kk ad H locs ls h0 hP hD hS hl)⟩
def x_i2l : mj_T := fun C lv st w k => match st with
  | .int x :: r => k (C) lv (.long x.toInt64 :: r) w
  | _ => none
theorem mj_i2l (hd : decode cc pc = .ok (.i2l, 1)) : mj_Snd G (own, nm, cc, nL) pc (x_i2l) (pc + 1) := by
  intro X hB C lv st w
  obtain ⟨p, l, e, R, s, m, args, below, meth, c, Q, D, cA, A, ad0, kp, nL'⟩ := X
  rcases st with _ | ⟨v1, r⟩
  · exact Or.inl fun _ => rfl
  cases v1 <;> first | exact Or.inl (fun _ => rfl) | exact Or.inr ⟨_, lv, _, w, fun _ => rfl, id, fun hc cells slots kk ad H locs ls h0 hP hD hS hl => lv_i2l hB.1 hB.2.1 hd rfl (kk ad H locs ls h0 hP hD hS hl)⟩
def x_l2i : mj_T := fun C lv st w k => match st with
  | .long x :: r => k (C) lv (.int x.toInt32 :: r) w
  | _ => none
theorem mj_l2i (hd : decode cc pc = .ok (.l2i, 1)) : mj_Snd G (own, nm, cc, nL) pc (x_l2i) (pc + 1) := by
  intro X hB C lv st w
  obtain ⟨p, l, e, R, s, m, args, below, meth, c, Q, D, cA, A, ad0, kp, nL'⟩ := X
  rcases st with _ | ⟨v1, r⟩
  · exact Or.inl fun _ => rfl
  cases v1 <;> first | exact Or.inl (fun _ => rfl) | exact Or.inr ⟨_, lv, _, w, fun _ => rfl, id, fun hc cells slots kk ad H locs ls h0 hP hD hS hl => lv_l2i hB.1 hB.2.1 hd rfl (kk ad H locs ls h0 hP hD hS hl)⟩
def x_const (v : Int32) : mj_T := fun C lv st w k => match st with
  | r => k (C) lv (.int v :: r) w
theorem mj_const {v : Int32} {n : Int} (hv : Int32.ofInt n = v) (hd : decode cc pc = .ok (.iconst n, 1)) : mj_Snd G (own, nm, cc, nL) pc (x_const v) (pc + 1) := by
  intro X hB C lv st w
  obtain ⟨p, l, e, R, s, m, args, below, meth, c, Q, D, cA, A, ad0, kp, nL'⟩ := X
  exact Or.inr ⟨_, lv, _, w, fun _ => rfl, id, fun _ cells slots kk ad H locs ls h0 hP hD hS hl => lv_iconst hB.1 hB.2.1 hd hv (kk ad H locs ls h0 hP hD hS hl)⟩

theorem mj_bipush {v : Int32} {n : Int} (hv : (Int8.ofInt n).toInt32 = v) (hd : decode cc pc = .ok (.bipush n, 2)) : mj_Snd G (own, nm, cc, nL) pc (x_const v) (pc + 2) := by
  intro X hB C lv st w
  obtain ⟨p, l, e, R, s, m, args, below, meth, c, Q, D, cA, A, ad0, kp, nL'⟩ := X
  exact Or.inr ⟨_, lv, _, w, fun _ => rfl, id, fun _ cells slots kk ad H locs ls h0 hP hD hS hl => lv_bipush hB.1 hB.2.1 hd hv (kk ad H locs ls h0 hP hD hS hl)⟩
theorem mj_sipush {v : Int32} {n : Int} (hv : (Int16.ofInt n).toInt32 = v) (hd : decode cc pc = .ok (.sipush n, 3)) : mj_Snd G (own, nm, cc, nL) pc (x_const v) (pc + 3) := by
  intro X hB C lv st w
  obtain ⟨p, l, e, R, s, m, args, below, meth, c, Q, D, cA, A, ad0, kp, nL'⟩ := X
  exact Or.inr ⟨_, lv, _, w, fun _ => rfl, id, fun _ cells slots kk ad H locs ls h0 hP hD hS hl => lv_sipush hB.1 hB.2.1 hd hv (kk ad H locs ls h0 hP hD hS hl)⟩
theorem mj_ldc {v : Int32} {index : Nat} (hw : Jvm.Cond.constant own index v ∈ G.2.1) (hd : decode cc pc = .ok (.ldc index, 2)) : mj_Snd G (own, nm, cc, nL) pc (x_const v) (pc + 2) := by
  intro X hB C lv st w
  obtain ⟨p, l, e, R, s, m, args, below, meth, c, Q, D, cA, A, ad0, kp, nL'⟩ := X
  exact Or.inr ⟨_, lv, _, w, fun _ => rfl, id, fun _ cells slots kk ad H locs ls h0 hP hD hS hl => lv_ldc hB.1 hB.2.1 hB.2.2.2.2.1 (hB.2.2.2.2.2.1 _ hw) hd (kk ad H locs ls h0 hP hD hS hl)⟩
theorem mj_ldcw {v : Int32} {index : Nat} (hw : Jvm.Cond.constant own index v ∈ G.2.1) (hd : decode cc pc = .ok (.ldc_w index, 3)) : mj_Snd G (own, nm, cc, nL) pc (x_const v) (pc + 3) := by
  intro X hB C lv st w
  obtain ⟨p, l, e, R, s, m, args, below, meth, c, Q, D, cA, A, ad0, kp, nL'⟩ := X
  exact Or.inr ⟨_, lv, _, w, fun _ => rfl, id, fun _ cells slots kk ad H locs ls h0 hP hD hS hl => lv_ldcw hB.1 hB.2.1 hB.2.2.2.2.1 (hB.2.2.2.2.2.1 _ hw) hd (kk ad H locs ls h0 hP hD hS hl)⟩
def x_lconst (v : Int64) : mj_T := fun C lv st w k => match st with
  | r => k (C) lv (.long v :: r) w
theorem mj_lconst {v : Int64} {n : Fin 2} (hv : Int64.ofNat (n : Nat) = v) (hd : decode cc pc = .ok (.lconst n, 1)) : mj_Snd G (own, nm, cc, nL) pc (x_lconst v) (pc + 1) := by
  intro X hB C lv st w
  obtain ⟨p, l, e, R, s, m, args, below, meth, c, Q, D, cA, A, ad0, kp, nL'⟩ := X
  exact Or.inr ⟨_, lv, _, w, fun _ => rfl, id, fun _ cells slots kk ad H locs ls h0 hP hD hS hl => lv_lconst hB.1 hB.2.1 hd hv (kk ad H locs ls h0 hP hD hS hl)⟩

theorem mj_ldc2 {v : Int64} {index : Nat} (hw : Jvm.Cond.constantLong own index v ∈ G.2.1) (hd : decode cc pc = .ok (.ldc2_w index, 3)) : mj_Snd G (own, nm, cc, nL) pc (x_lconst v) (pc + 3) := by
  intro X hB C lv st w
  obtain ⟨p, l, e, R, s, m, args, below, meth, c, Q, D, cA, A, ad0, kp, nL'⟩ := X
  exact Or.inr ⟨_, lv, _, w, fun _ => rfl, id, fun _ cells slots kk ad H locs ls h0 hP hD hS hl => lv_ldc2 hB.1 hB.2.1 hB.2.2.2.2.1 (hB.2.2.2.2.2.1 _ hw) hd (kk ad H locs ls h0 hP hD hS hl)⟩
def x_null : mj_T := fun C lv st w k => match st with
  | r => k (C) lv (.null :: r) w
theorem mj_null (hd : decode cc pc = .ok (.aconst_null, 1)) : mj_Snd G (own, nm, cc, nL) pc (x_null) (pc + 1) := by
  intro X hB C lv st w
  obtain ⟨p, l, e, R, s, m, args, below, meth, c, Q, D, cA, A, ad0, kp, nL'⟩ := X
  exact Or.inr ⟨_, lv, _, w, fun _ => rfl, id, fun _ cells slots kk ad H locs ls h0 hP hD hS hl => lv_null hB.1 hB.2.1 hd (kk ad H locs ls h0 hP hD hS hl)⟩

def x_skip : mj_T := fun C lv st w k => k C lv st w
theorem mj_goto {off : Int} {tgt : Nat} (ht : (pc : Int) + off = (tgt : Int)) (hd : decode cc pc = .ok (.goto off, 3)) : mj_Snd G (own, nm, cc, nL) pc x_skip tgt := by
  intro X hB C lv st w
  obtain ⟨p, l, e, R, s, m, args, below, meth, c, Q, D, cA, A, ad0, kp, nL'⟩ := X
  exact Or.inr ⟨_, lv, _, w, fun _ => rfl, id, fun _ cells slots kk ad H locs ls h0 hP hD hS hl => lv_goto hB.1 hB.2.1 hd ht (kk ad H locs ls h0 hP hD hS hl)⟩
def x_dup : mj_T := fun C lv st w k => match st with
  | a1 :: r => bif Nat.beq a1.category 1 then (k C lv (a1 :: a1 :: r) w) else none
  | _ => none
theorem mj_dup (hd : decode cc pc = .ok (.dup, 1)) : mj_Snd G (own, nm, cc, nL) pc x_dup (pc + 1) := by
  intro X hB C lv st w
  obtain ⟨p, l, e, R, s, m, args, below, meth, c, Q, D, cA, A, ad0, kp, nL'⟩ := X
  rcases st with _ | ⟨v1, r⟩
  · exact Or.inl fun _ => rfl
  cases v1 <;> first | exact Or.inl (fun _ => rfl) | exact Or.inr ⟨C, lv, _, w, fun _ => rfl, id, fun _ cells slots kk ad H locs ls h0 hP hD hS hl => lv_dup hB.1 hB.2.1 hd rfl (kk ad H locs ls h0 hP hD hS hl)⟩
def x_pop : mj_T := fun C lv st w k => match st with
  | a1 :: r => bif Nat.beq a1.category 1 then k C lv r w else none
  | _ => none
theorem mj_pop (hd : decode cc pc = .ok (.pop, 1)) : mj_Snd G (own, nm, cc, nL) pc x_pop (pc + 1) := by
  intro X hB C lv st w
  obtain ⟨p, l, e, R, s, m, args, below, meth, c, Q, D, cA, A, ad0, kp, nL'⟩ := X
  rcases st with _ | ⟨v1, r⟩
  · exact Or.inl fun _ => rfl
  cases v1 <;> first | exact Or.inl (fun _ => rfl) | exact Or.inr ⟨C, lv, _, w, fun _ => rfl, id, fun _ cells slots kk ad H locs ls h0 hP hD hS hl => lv_pop hB.1 hB.2.1 hd rfl (kk ad H locs ls h0 hP hD hS hl)⟩
def x_dup_x1 : mj_T := fun C lv st w k => match st with
  | a1 :: a2 :: r => bif Nat.beq a1.category 1 then (bif Nat.beq a2.category 1 then (k C lv (a1 :: a2 :: a1 :: r) w) else none) else none
  | _ => none
theorem mj_dup_x1 (hd : decode cc pc = .ok (.dup_x1, 1)) : mj_Snd G (own, nm, cc, nL) pc x_dup_x1 (pc + 1) := by
  intro X hB C lv st w
  obtain ⟨p, l, e, R, s, m, args, below, meth, c, Q, D, cA, A, ad0, kp, nL'⟩ := X
  rcases st with _ | ⟨v1, _ | ⟨v2, r⟩⟩
  · exact Or.inl fun _ => rfl
  · exact Or.inl fun _ => rfl
  cases v1 <;> cases v2 <;> first | exact Or.inl (fun _ => rfl) | exact Or.inr ⟨C, lv, _, w, fun _ => rfl, id, fun _ cells slots kk ad H locs ls h0 hP hD hS hl => lv_dup_x1 hB.1 hB.2.1 hd rfl rfl (kk ad H locs ls h0 hP hD hS hl)⟩
def x_dup2 : mj_T := fun C lv st w k => match st with
  | a1 :: a2 :: r => bif Nat.beq a1.category 1 then (bif Nat.beq a2.category 1 then (k C lv (a1 :: a2 :: a1 :: a2 :: r) w) else none) else none
  | _ => none
theorem mj_dup2 (hd : decode cc pc = .ok (.dup2, 1)) : mj_Snd G (own, nm, cc, nL) pc x_dup2 (pc + 1) := by
  intro X hB C lv st w
  obtain ⟨p, l, e, R, s, m, args, below, meth, c, Q, D, cA, A, ad0, kp, nL'⟩ := X
  rcases st with _ | ⟨v1, _ | ⟨v2, r⟩⟩
  · exact Or.inl fun _ => rfl
  · exact Or.inl fun _ => rfl
  cases v1 <;> cases v2 <;> first | exact Or.inl (fun _ => rfl) | exact Or.inr ⟨C, lv, _, w, fun _ => rfl, id, fun _ cells slots kk ad H locs ls h0 hP hD hS hl => lv_dup2_11 hB.1 hB.2.1 hd rfl rfl (kk ad H locs ls h0 hP hD hS hl)⟩
def x_iload (i : Nat) : mj_T := fun C lv st w k => mj_lk lv i fun v => match v with
  | .int x => k C lv (.int x :: st) w
  | _ => none
theorem mj_iload_n {j : Fin 4} {i : Nat} (hi : (j : Nat) = i) (hd : decode cc pc = .ok (.iload_n j, 1)) : mj_Snd G (own, nm, cc, nL) pc (x_iload i) (pc + 1) := by
  intro X hB C lv st w
  obtain ⟨p, l, e, R, s, m, args, below, meth, c, Q, D, cA, A, ad0, kp, nL'⟩ := X
  rcases mj_lk_or lv i with h | ⟨v, q0, h, hq⟩
  · exact Or.inl fun k => h _
  cases v <;> first | exact Or.inr ⟨C, lv, _, w, fun k => h _, id, fun _ cells slots kk ad H locs ls h0 hP hD hS hl => lv_iload_n hB.1 hB.2.1 hd hi (lv_at hl q0 (mj_l_at hq)) (kk ad H locs ls h0 hP hD hS hl)⟩ | exact Or.inl (fun k => h _)
theorem mj_iload {i : Nat} (hd : decode cc pc = .ok (.iload i, 2)) : mj_Snd G (own, nm, cc, nL) pc (x_iload i) (pc + 2) := by
  intro X hB C lv st w
  obtain ⟨p, l, e, R, s, m, args, below, meth, c, Q, D, cA, A, ad0, kp, nL'⟩ := X
  rcases mj_lk_or lv i with h | ⟨v, q0, h, hq⟩
  · exact Or.inl fun k => h _
  cases v <;> first | exact Or.inr ⟨C, lv, _, w, fun k => h _, id, fun _ cells slots kk ad H locs ls h0 hP hD hS hl => lv_iload hB.1 hB.2.1 hd (lv_at hl q0 (mj_l_at hq)) (kk ad H locs ls h0 hP hD hS hl)⟩ | exact Or.inl (fun k => h _)
def x_lload (i : Nat) : mj_T := fun C lv st w k => mj_lk lv i fun v => match v with
  | .long x => k C lv (.long x :: st) w
  | _ => none
theorem mj_lload_n {j : Fin 4} {i : Nat} (hi : (j : Nat) = i) (hd : decode cc pc = .ok (.lload_n j, 1)) : mj_Snd G (own, nm, cc, nL) pc (x_lload i) (pc + 1) := by
  intro X hB C lv st w
  obtain ⟨p, l, e, R, s, m, args, below, meth, c, Q, D, cA, A, ad0, kp, nL'⟩ := X
  rcases mj_lk_or lv i with h | ⟨v, q0, h, hq⟩
  · exact Or.inl fun k => h _
  cases v <;> first | exact Or.inr ⟨C, lv, _, w, fun k => h _, id, fun _ cells slots kk ad H locs ls h0 hP hD hS hl => lv_lload_n hB.1 hB.2.1 hd hi (lv_at hl q0 (mj_l_at hq)) (kk ad H locs ls h0 hP hD hS hl)⟩ | exact Or.inl (fun k => h _)
theorem mj_lload {i : Nat} (hd : decode cc pc = .ok (.lload i, 2)) : mj_Snd G (own, nm, cc, nL) pc (x_lload i) (pc + 2) := by
  intro X hB C lv st w
  obtain ⟨p, l, e, R, s, m, args, below, meth, c, Q, D, cA, A, ad0, kp, nL'⟩ := X
  rcases mj_lk_or lv i with h | ⟨v, q0, h, hq⟩
  · exact Or.inl fun k => h _
  cases v <;> first | exact Or.inr ⟨C, lv, _, w, fun k => h _, id, fun _ cells slots kk ad H locs ls h0 hP hD hS hl => lv_lload hB.1 hB.2.1 hd (lv_at hl q0 (mj_l_at hq)) (kk ad H locs ls h0 hP hD hS hl)⟩ | exact Or.inl (fun k => h _)
def x_aload (i : Nat) : mj_T := fun C lv st w k => mj_lk lv i fun v => match v with
  | .ref x => k C lv (.ref x :: st) w
  | .null => k C lv (.null :: st) w
  | _ => none
theorem mj_aload_n {j : Fin 4} {i : Nat} (hi : (j : Nat) = i) (hd : decode cc pc = .ok (.aload_n j, 1)) : mj_Snd G (own, nm, cc, nL) pc (x_aload i) (pc + 1) := by
  intro X hB C lv st w
  obtain ⟨p, l, e, R, s, m, args, below, meth, c, Q, D, cA, A, ad0, kp, nL'⟩ := X
  rcases mj_lk_or lv i with h | ⟨v, q0, h, hq⟩
  · exact Or.inl fun k => h _
  cases v <;> first | exact Or.inr ⟨C, lv, _, w, fun k => h _, id, fun _ cells slots kk ad H locs ls h0 hP hD hS hl => lv_aload_n hB.1 hB.2.1 hd hi (lv_at hl q0 (mj_l_at hq)) (kk ad H locs ls h0 hP hD hS hl)⟩ | exact Or.inr ⟨C, lv, _, w, fun k => h _, id, fun _ cells slots kk ad H locs ls h0 hP hD hS hl => lv_aload_nN hB.1 hB.2.1 hd hi (lv_at hl q0 (mj_l_at hq)) (kk ad H locs ls h0 hP hD hS hl)⟩ | exact Or.inl (fun k => h _)
theorem mj_aload {i : Nat} (hd : decode cc pc = .ok (.aload i, 2)) : mj_Snd G (own, nm, cc, nL) pc (x_aload i) (pc + 2) := by
  intro X hB C lv st w
  obtain ⟨p, l, e, R, s, m, args, below, meth, c, Q, D, cA, A, ad0, kp, nL'⟩ := X
  rcases mj_lk_or lv i with h | ⟨v, q0, h, hq⟩
  · exact Or.inl fun k => h _
  cases v <;> first | exact Or.inr ⟨C, lv, _, w, fun k => h _, id, fun _ cells slots kk ad H locs ls h0 hP hD hS hl => lv_aload hB.1 hB.2.1 hd (lv_at hl q0 (mj_l_at hq)) (kk ad H locs ls h0 hP hD hS hl)⟩ | exact Or.inr ⟨C, lv, _, w, fun k => h _, id, fun _ cells slots kk ad H locs ls h0 hP hD hS hl => lv_aloadN hB.1 hB.2.1 hd (lv_at hl q0 (mj_l_at hq)) (kk ad H locs ls h0 hP hD hS hl)⟩ | exact Or.inl (fun k => h _)
def x_istore (i : Nat) : mj_T := fun C lv st w k => match st with
  | .int x :: r => mj_fi (mj_p1 i) lv fun lv' => k C ((i, .int x) :: lv') r w
  | _ => none
theorem mj_istore_n {j : Fin 4} {i : Nat} (hi : (j : Nat) = i) (hnl : i < nL) (hd : decode cc pc = .ok (.istore_n j, 1)) : mj_Snd G (own, nm, cc, nL) pc (x_istore i) (pc + 1) := by
  intro X hB C lv st w
  obtain ⟨p, l, e, R, s, m, args, below, meth, c, Q, D, cA, A, ad0, kp, nL'⟩ := X
  have hn : nL' = nL := hB.2.2.2.1
  subst hn
  rcases st with _ | ⟨v1, r⟩
  · exact Or.inl fun _ => rfl
  cases v1 <;> first | exact Or.inl (fun _ => rfl) | exact Or.inr ⟨C, (i, _) :: lv.filter (mj_p1 i), r, w, fun k => mj_fi_eq _ _ _, id, fun _ cells slots kk ad H locs ls h0 hP hD hS hl => lv_istore_n hB.1 hB.2.1 hd hi hl hnl rfl (fun ls' hl' => kk ad H locs ls' h0 hP hD hS (by rw [mj_l_p1] at hl'; exact hl'))⟩
theorem mj_istore {i : Nat} (hnl : i < nL) (hd : decode cc pc = .ok (.istore i, 2)) : mj_Snd G (own, nm, cc, nL) pc (x_istore i) (pc + 2) := by
  intro X hB C lv st w
  obtain ⟨p, l, e, R, s, m, args, below, meth, c, Q, D, cA, A, ad0, kp, nL'⟩ := X
  have hn : nL' = nL := hB.2.2.2.1
  subst hn
  rcases st with _ | ⟨v1, r⟩
  · exact Or.inl fun _ => rfl
  cases v1 <;> first | exact Or.inl (fun _ => rfl) | exact Or.inr ⟨C, (i, _) :: lv.filter (mj_p1 i), r, w, fun k => mj_fi_eq _ _ _, id, fun _ cells slots kk ad H locs ls h0 hP hD hS hl => lv_istore hB.1 hB.2.1 hd hl hnl rfl (fun ls' hl' => kk ad H locs ls' h0 hP hD hS (by rw [mj_l_p1] at hl'; exact hl'))⟩
def x_lstore (i : Nat) : mj_T := fun C lv st w k => match st with
  | .long x :: r => mj_fi (mj_p2 i) lv fun lv' => k C ((i, .long x) :: lv') r w
  | _ => none
theorem mj_lstore_n {j : Fin 4} {i : Nat} (hi : (j : Nat) = i) (hnl : i + 1 < nL) (hd : decode cc pc = .ok (.lstore_n j, 1)) : mj_Snd G (own, nm, cc, nL) pc (x_lstore i) (pc + 1) := by
  intro X hB C lv st w
  obtain ⟨p, l, e, R, s, m, args, below, meth, c, Q, D, cA, A, ad0, kp, nL'⟩ := X
  have hn : nL' = nL := hB.2.2.2.1
  subst hn
  rcases st with _ | ⟨v1, r⟩
  · exact Or.inl fun _ => rfl
  cases v1 <;> first | exact Or.inl (fun _ => rfl) | exact Or.inr ⟨C, (i, _) :: lv.filter (mj_p2 i), r, w, fun k => mj_fi_eq _ _ _, id, fun _ cells slots kk ad H locs ls h0 hP hD hS hl => lv_lstore_n hB.1 hB.2.1 hd hi hl hnl rfl (fun ls' hl' => kk ad H locs ls' h0 hP hD hS (by rw [mj_l_p2] at hl'; exact hl'))⟩
theorem mj_lstore {i : Nat} (hnl : i + 1 < nL) (hd : decode cc pc = .ok (.lstore i, 2)) : mj_Snd G (own, nm, cc, nL) pc (x_lstore i) (pc + 2) := by
  intro X hB C lv st w
  obtain ⟨p, l, e, R, s, m, args, below, meth, c, Q, D, cA, A, ad0, kp, nL'⟩ := X
  have hn : nL' = nL := hB.2.2.2.1
  subst hn
  rcases st with _ | ⟨v1, r⟩
  · exact Or.inl fun _ => rfl
  cases v1 <;> first | exact Or.inl (fun _ => rfl) | exact Or.inr ⟨C, (i, _) :: lv.filter (mj_p2 i), r, w, fun k => mj_fi_eq _ _ _, id, fun _ cells slots kk ad H locs ls h0 hP hD hS hl => lv_lstore hB.1 hB.2.1 hd hl hnl rfl (fun ls' hl' => kk ad H locs ls' h0 hP hD hS (by rw [mj_l_p2] at hl'; exact hl'))⟩
def x_astore (i : Nat) : mj_T := fun C lv st w k => match st with
  | .ref x :: r => mj_fi (mj_p1 i) lv fun lv' => k C ((i, .ref x) :: lv') r w
  | .null :: r => mj_fi (mj_p1 i) lv fun lv' => k C ((i, .null) :: lv') r w
  | _ => none
theorem mj_astore_n {j : Fin 4} {i : Nat} (hi : (j : Nat) = i) (hnl : i < nL) (hd : decode cc pc = .ok (.astore_n j, 1)) : mj_Snd G (own, nm, cc, nL) pc (x_astore i) (pc + 1) := by
  intro X hB C lv st w
  obtain ⟨p, l, e, R, s, m, args, below, meth, c, Q, D, cA, A, ad0, kp, nL'⟩ := X
  have hn : nL' = nL := hB.2.2.2.1
  subst hn
  rcases st with _ | ⟨v1, r⟩
  · exact Or.inl fun _ => rfl
  cases v1 <;> first | exact Or.inl (fun _ => rfl) | exact Or.inr ⟨C, (i, _) :: lv.filter (mj_p1 i), r, w, fun k => mj_fi_eq _ _ _, id, fun _ cells slots kk ad H locs ls h0 hP hD hS hl => lv_astore_n hB.1 hB.2.1 hd hi hl hnl rfl (fun ls' hl' => kk ad H locs ls' h0 hP hD hS (by rw [mj_l_p1] at hl'; exact hl'))⟩ | exact Or.inr ⟨C, (i, _) :: lv.filter (mj_p1 i), r, w, fun k => mj_fi_eq _ _ _, id, fun _ cells slots kk ad H locs ls h0 hP hD hS hl => lv_astore_nN hB.1 hB.2.1 hd hi hl hnl rfl (fun ls' hl' => kk ad H locs ls' h0 hP hD hS (by rw [mj_l_p1] at hl'; exact hl'))⟩
theorem mj_astore {i : Nat} (hnl : i < nL) (hd : decode cc pc = .ok (.astore i, 2)) : mj_Snd G (own, nm, cc, nL) pc (x_astore i) (pc + 2) := by
  intro X hB C lv st w
  obtain ⟨p, l, e, R, s, m, args, below, meth, c, Q, D, cA, A, ad0, kp, nL'⟩ := X
  have hn : nL' = nL := hB.2.2.2.1
  subst hn
  rcases st with _ | ⟨v1, r⟩
  · exact Or.inl fun _ => rfl
  cases v1 <;> first | exact Or.inl (fun _ => rfl) | exact Or.inr ⟨C, (i, _) :: lv.filter (mj_p1 i), r, w, fun k => mj_fi_eq _ _ _, id, fun _ cells slots kk ad H locs ls h0 hP hD hS hl => lv_astore hB.1 hB.2.1 hd hl hnl rfl (fun ls' hl' => kk ad H locs ls' h0 hP hD hS (by rw [mj_l_p1] at hl'; exact hl'))⟩ | exact Or.inr ⟨C, (i, _) :: lv.filter (mj_p1 i), r, w, fun k => mj_fi_eq _ _ _, id, fun _ cells slots kk ad H locs ls h0 hP hD hS hl => lv_astoreN hB.1 hB.2.1 hd hl hnl rfl (fun ls' hl' => kk ad H locs ls' h0 hP hD hS (by rw [mj_l_p1] at hl'; exact hl'))⟩
def x_iinc (i : Nat) (d : Int32) : mj_T := fun C lv st w k => mj_lk lv i fun v => match v with
  | .int x => mj_fi (mj_p1 i) lv fun lv' => k C ((i, .int (x + d)) :: lv') st w
  | _ => none
theorem mj_iinc {i : Nat} {n : Int} {d : Int32} (hv : Int32.ofInt n = d) (hnl : i < nL) (hd : decode cc pc = .ok (.iinc i n, 3)) : mj_Snd G (own, nm, cc, nL) pc (x_iinc i d) (pc + 3) := by
  intro X hB C lv st w
  obtain ⟨p, l, e, R, s, m, args, below, meth, c, Q, D, cA, A, ad0, kp, nL'⟩ := X
  have hn : nL' = nL := hB.2.2.2.1
  subst hn
  rcases mj_lk_or lv i with h | ⟨v, q0, h, hq⟩
  · exact Or.inl fun k => h _
  cases v <;> first | exact Or.inr ⟨C, (i, .int (_ + d)) :: lv.filter (mj_p1 i), st, w, fun k => (h _).trans (mj_fi_eq _ _ _), id, fun _ cells slots kk ad H locs ls h0 hP hD hS hl => lv_iinc hB.1 hB.2.1 hd hl (mj_l_at hq) (by rw [hv]) hnl rfl (fun ls' hl' => kk ad H locs ls' h0 hP hD hS (by rw [mj_l_p1] at hl'; exact hl'))⟩ | exact Or.inl (fun k => h _)
end MJO
