/-! calls that make cells: the callee's new places come under new names -/
def mj_aus (ad ad' : Nat → Nat) : List (Nat × Nat) → (Nat → Nat)
  | [] => ad
  | x :: σ => mj_au (mj_aus ad ad' σ) x.2 (ad' x.1)
def mj_bl : List Nat → Nat → Bool
  | [], _ => false
  | x :: L, a => Nat.beq x a || mj_bl L a
def mj_sv (L : List Nat) : Value → Bool
  | .ref a => mj_bl L a
  | _ => true
def mj_so (L : List Nat) : Option Nat → Bool
  | some a => mj_bl L a
  | none => true
def mj_sc (L : List Nat) : mj_C → Bool
  | .inl (_, _, .inl _) => true
  | .inl (_, _, .inr (.inl _)) => true
  | .inl (_, _, .inr (.inr l)) => l.all (mj_so L)
  | .inr (_, fs) => fs.all (mj_sv L)
def mj_sw9 (L : List Nat) (w : mj_M) : Bool := w.all (fun q => mj_bl L q.1 && mj_sc L q.2)
theorem mj_bl_in {L : List Nat} {a : Nat} (h : mj_bl L a = true) : a ∈ L := by
  induction L with
  | nil => cases h
  | cons x L ih =>
    have h : (Nat.beq x a || mj_bl L a) = true := h
    rw [Bool.or_eq_true] at h
    rcases h with h | h
    · have : x = a := Nat.eq_of_beq_eq_true h
      rw [this]; exact List.mem_cons_self
    · exact List.mem_cons_of_mem _ (ih h)
theorem mj_sv_eq {f g : Nat → Nat} {L : List Nat} (h : ∀ q ∈ L, f q = g q) {v : Value} (hv : mj_sv L v = true) : mj_v f v = mj_v g v := by
  cases v with
  | ref a =>
    show Value.ref (f a) = .ref (g a)
    rw [h a (mj_bl_in hv)]
  | _ => rfl
theorem mj_sc_eq {f g : Nat → Nat} {L : List Nat} (h : ∀ q ∈ L, f q = g q) {cA : Nat → ClassId} {e : mj_C} (he : mj_sc L e = true) : mj_e f cA e = mj_e g cA e := by
  rcases e with ⟨t, n, x | x | x⟩ | ⟨c, fs⟩
  · rfl
  · rfl
  · show (Sum.inl (cA t, n, .inr (.inr (.inr (.inr (fun j => (x.getD j none).map f))))) : va_E) = .inl (cA t, n, .inr (.inr (.inr (.inr (fun j => (x.getD j none).map g)))))
    have hfun : (fun j => (x.getD j none).map f) = (fun j => (x.getD j none).map g) := by
      funext j
      cases hj : x.getD j none with
      | none => rfl
      | some a =>
        have hm : some a ∈ x := by
          rw [List.getD_eq_getElem?_getD] at hj
          cases h2 : x[j]? with
          | none => rw [h2] at hj; cases hj
          | some o =>
            rw [h2] at hj
            have hj : o = some a := hj
            rw [← hj]
            exact List.mem_of_getElem? h2
        have h3 := List.all_eq_true.mp (show x.all (mj_so L) = true from he) _ hm
        show some (f a) = some (g a)
        rw [h a (mj_bl_in h3)]
    rw [hfun]
  · show (Sum.inr (c, fs.map (mj_v f)) : va_E) = .inr (c, fs.map (mj_v g))
    congr 2
    apply List.map_congr_left
    intro v hv
    exact mj_sv_eq h (List.all_eq_true.mp (show fs.all (mj_sv L) = true from he) v hv)
theorem mj_sw_eq {f g : Nat → Nat} {L : List Nat} (h : ∀ q ∈ L, f q = g q) {cA : Nat → ClassId} {w : mj_M} (hw : mj_sw9 L w = true) : mj_w f cA w = mj_w g cA w := by
  unfold mj_w
  apply List.map_congr_left
  intro z hz
  have h2 := List.all_eq_true.mp (show w.all _ = true from hw) z hz
  rw [Bool.and_eq_true] at h2
  rw [h _ (mj_bl_in h2.1), mj_sc_eq h h2.2]
theorem mj_aus_w {ad ad' : Nat → Nat} {σ : List (Nat × Nat)} {cA : Nat → ClassId} {w : mj_M} (h : ∀ x ∈ σ, mj_nw x.2 w) : mj_w (mj_aus ad ad' σ) cA w = mj_w ad cA w := by
  induction σ with
  | nil => rfl
  | cons x σ ih =>
    show mj_w (mj_au (mj_aus ad ad' σ) x.2 (ad' x.1)) cA w = _
    rw [mj_au_w (h x List.mem_cons_self)]
    exact ih (fun y hy => h y (List.mem_cons_of_mem _ hy))
theorem mj_aus_l {ad ad' : Nat → Nat} {σ : List (Nat × Nat)} {lv : mj_L} (h : ∀ x ∈ σ, mj_nl x.2 lv) : mj_l (mj_aus ad ad' σ) lv = mj_l ad lv := by
  induction σ with
  | nil => rfl
  | cons x σ ih =>
    show mj_l (mj_au (mj_aus ad ad' σ) x.2 (ad' x.1)) lv = _
    rw [mj_au_l (h x List.mem_cons_self)]
    exact ih (fun y hy => h y (List.mem_cons_of_mem _ hy))
theorem mj_aus_s {ad ad' : Nat → Nat} {σ : List (Nat × Nat)} {st : List Value} (h : ∀ x ∈ σ, mj_ns2 x.2 st) : st.map (mj_v (mj_aus ad ad' σ)) = st.map (mj_v ad) := by
  induction σ with
  | nil => rfl
  | cons x σ ih =>
    show st.map (mj_v (mj_au (mj_aus ad ad' σ) x.2 (ad' x.1))) = _
    rw [mj_au_s (h x List.mem_cons_self)]
    exact ih (fun y hy => h y (List.mem_cons_of_mem _ hy))
theorem mj_aus_n {ad ad' : Nat → Nat} {σ : List (Nat × Nat)} {a : Nat} (h : ∀ x ∈ σ, x.2 ≠ a) : mj_aus ad ad' σ a = ad a := by
  induction σ with
  | nil => rfl
  | cons x σ ih =>
    show (if a = x.2 then ad' x.1 else mj_aus ad ad' σ a) = _
    rw [if_neg (fun z => h x List.mem_cons_self z.symm)]
    exact ih (fun y hy => h y (List.mem_cons_of_mem _ hy))
theorem mj_aus_y {ad ad' : Nat → Nat} {σ : List (Nat × Nat)} (hnd : σ.Pairwise (fun a b => a.2 ≠ b.2)) {x : Nat × Nat} (hx : x ∈ σ) : mj_aus ad ad' σ x.2 = ad' x.1 := by
  induction σ with
  | nil => cases hx
  | cons y σ ih =>
    obtain ⟨h1, h2⟩ := List.pairwise_cons.mp hnd
    show (if x.2 = y.2 then ad' y.1 else mj_aus ad ad' σ x.2) = _
    rcases List.mem_cons.mp hx with e | e
    · rw [e, if_pos rfl]
    · rw [if_neg (fun z => h1 x e z.symm)]
      exact ih h2 e
/-- behind a call that makes cells: K are the callee's places at its start, σ its new ones and their names here -/
theorem mj_afterN {p : Program} {l : Launch} {e : Env} {R : Room} {s : State} {m : MethodId} {args : Array Value} {below : List Frame} {meth : Method} {c : Code} {H : Heap} {locs : List Loc} {cells slots mcc msc pc : Nat} {Q : State → Prop} {ls : Array Slot} {rest st0 : List Value} {a : Array Value} {A : Nat → Prop} {G : mj_G} {D : va_G} {cA : Nat → ClassId} {ad : Nat → Nat} {ρ σ : List (Nat × Nat)} {K : List Nat} {w wc : mj_M} {postc : mj_R}
    (hr : va_Run p l e R s m args below meth c H locs cells slots mcc msc (F0 m pc ls st0) (rest.map (mj_v ad)) (mj_Q G D cA (va_A (mj_w (fun q => ad (mj_ff ρ q)) cA wc) H.size) (fun q => ad (mj_ff ρ q)) (fun q => q ∈ K) postc a) (va_A (mj_w (fun q => ad (mj_ff ρ q)) cA wc) H.size))
    (hS : va_S A s.heap H locs) (hP : va_P D G.1 (mj_w ad cA w) H) (hD : va_D A (mj_w ad cA w)) (hA : ∀ q, s.heap.size ≤ q → A q) (hin : ∀ q ∈ mj_wr (mj_ff ρ) wc, q ∈ w)
    (hK : ∀ q ∈ K, ∀ x ∈ σ, x.2 ≠ mj_ff ρ q) (hσ : ∀ x ∈ σ, mj_ff ρ x.1 = x.2) (hnd : σ.Pairwise (fun a b => a.2 ≠ b.2)) (hfw : ∀ x ∈ σ, mj_nw x.2 w) (hfs : ∀ x ∈ σ, mj_ns2 x.2 rest)
    (kk : ∀ (r : Option Value) (w' : mj_M), postc r w' → mj_pw w → ∃ (st2 : List Value) (w2 : mj_M), (st2 = r.toList.map (mj_v (mj_ff ρ)) ++ rest ∧ mj_pw w2 ∧ ∀ q ∈ w2, q ∈ mj_wr (mj_ff ρ) w' ∨ (q ∈ w ∧ ∀ z ∈ mj_wr (mj_ff ρ) w', z.1 ≠ q.1)) ∧ (∀ z ∈ wc, ∃ y ∈ w', y.1 = z.1) ∧ mj_sw9 (K ++ σ.map Prod.fst) w' = true ∧ r.toList.all (mj_sv (K ++ σ.map Prod.fst)) = true ∧
      ∀ (ad' : Nat → Nat) (H1 : Heap) (locs1 : List Loc), va_P D G.1 (mj_w (mj_aus ad ad' σ) cA w2) H1 → va_D A (mj_w (mj_aus ad ad' σ) cA w2) → va_S A s.heap H1 locs1 → W p l e R s m args below meth c H1 locs1 (cells + mcc) (slots + msc) Q (F0 m (pc + 3) ls (st2.map (mj_v (mj_aus ad ad' σ))))) : W p l e R s m args below meth c H locs cells slots Q (F0 m pc ls st0) := by
  have hw1 := mj_w_wr ad (mj_ff ρ) cA wc
  have hAA : ∀ q, va_A (mj_w (fun q => ad (mj_ff ρ q)) cA wc) H.size q → A q := by
    rintro q (⟨k, e1, hk⟩ | hk)
    · rw [← hw1] at hk
      unfold mj_w at hk
      rw [List.getElem?_map] at hk
      cases hz : (mj_wr (mj_ff ρ) wc)[k]? with
      | none => rw [hz] at hk; cases hk
      | some z =>
        rw [hz] at hk
        have hk : (ad z.1, mj_e ad cA z.2) = (q, e1) := Option.some.inj hk
        obtain ⟨kz, hkz, -⟩ := mj_in_at (ad := ad) (cA := cA) (hin z (List.mem_of_getElem? hz))
        have := hD.2 kz _ hkz
        rw [← (Prod.mk.inj hk).1]
        exact this
    · exact hA q (Nat.le_trans hS.1 hk)
  intro T hT X
  obtain ⟨v, st₀, t, T', L, h0, X', hL, e1, e2, ⟨⟨r, w', ad', had, hpost, hoc, hP1, -, hD1⟩, hz, hk⟩, st⟩ := hr T hT X
  injection hoc with hoc
  subst hoc
  rw [h0] at hz hk
  obtain ⟨st2, w2, ⟨hst2, hpw2, h2⟩, hkeys, hsup, hsupr, kk⟩ := kk r w' hpost (mj_D_pw hD)
  -- the two ways to read the callee's places
  have hag : ∀ q ∈ K ++ σ.map Prod.fst, ad' q = mj_aus ad ad' σ (mj_ff ρ q) := by
    intro q hq
    rcases List.mem_append.mp hq with hq | hq
    · rw [had q hq, mj_aus_n (hK q hq)]
    · obtain ⟨x, hx, e9⟩ := List.mem_map.mp hq
      rw [← e9, hσ x hx, mj_aus_y hnd hx]
  have hw' : mj_w (mj_aus ad ad' σ) cA (mj_wr (mj_ff ρ) w') = mj_w ad' cA w' := by
    rw [mj_w_wr]
    exact (mj_sw_eq hag hsup).symm
  have hww : mj_w (mj_aus ad ad' σ) cA w = mj_w ad cA w := mj_aus_w hfw
  have hold : ∀ z ∈ w, mj_aus ad ad' σ z.1 = ad z.1 := fun z hz => mj_aus_n (fun x hx e => (hfw x hx z hz).1 e.symm)
  have hat : ∀ z ∈ w, va_at D G.1 (ad z.1, mj_e ad cA z.2) H := by
    intro z hz
    obtain ⟨kz, hkz, -⟩ := mj_in_at (ad := ad) (cA := cA) hz
    exact hP kz _ hkz
  -- an old cell that the callee was not given is none of its
  have apart : ∀ z ∈ w, (∀ y ∈ mj_wr (mj_ff ρ) w', y.1 ≠ z.1) → ¬ va_A (mj_w (fun q => ad (mj_ff ρ q)) cA wc) H.size (ad z.1) := by
    intro z hz hne h
    rcases h with ⟨ky, ey, hy⟩ | hy
    · rw [← hw1] at hy
      unfold mj_w at hy
      rw [List.getElem?_map] at hy
      cases hyy : (mj_wr (mj_ff ρ) wc)[ky]? with
      | none => rw [hyy] at hy; cases hy
      | some y =>
        rw [hyy] at hy
        have hy : (ad y.1, mj_e ad cA y.2) = (ad z.1, ey) := Option.some.inj hy
        have hy1 : ad y.1 = ad z.1 := (Prod.mk.inj hy).1
        have hym := List.mem_of_getElem? hyy
        obtain ⟨kyw, hkyw, hwy⟩ := mj_in_at (ad := ad) (cA := cA) (hin y hym)
        obtain ⟨kz, hkz, hwz⟩ := mj_in_at (ad := ad) (cA := cA) hz
        have := hD.1 kyw kz _ _ hkyw hkz hy1
        subst this
        have hyz : y = z := Option.some.inj (hwy.symm.trans hwz)
        subst hyz
        obtain ⟨u, hu, eu⟩ := List.mem_map.mp hym
        obtain ⟨y9, hy9, e9⟩ := hkeys u hu
        refine hne (mj_ff ρ y9.1, mj_cr (mj_ff ρ) y9.2) (List.mem_map.mpr ⟨y9, hy9, rfl⟩) ?_
        show mj_ff ρ y9.1 = y.1
        rw [e9, ← eu]
    · exact absurd (hat z hz).lt (Nat.not_lt.mpr hy)
  have hP2 : va_P D G.1 (mj_w (mj_aus ad ad' σ) cA w2) T'.heap := by
    intro k q hq
    unfold mj_w at hq
    rw [List.getElem?_map] at hq
    cases hzz : w2[k]? with
    | none => rw [hzz] at hq; cases hq
    | some z =>
      rw [hzz] at hq
      have hq : (mj_aus ad ad' σ z.1, mj_e (mj_aus ad ad' σ) cA z.2) = q := Option.some.inj hq
      subst hq
      rcases h2 z (List.mem_of_getElem? hzz) with hm | ⟨hm, hne⟩
      · obtain ⟨k1, hk1, -⟩ := mj_in_at (ad := mj_aus ad ad' σ) (cA := cA) hm
        rw [hw'] at hk1
        rw [e1]
        exact hP1 k1 _ hk1
      · obtain ⟨kz, hkz, -⟩ := mj_in_at (ad := mj_aus ad ad' σ) (cA := cA) hm
        obtain ⟨kz2, hkz2, hkz3⟩ := mj_in_at (ad := ad) (cA := cA) hm
        have e9 : (mj_aus ad ad' σ z.1, mj_e (mj_aus ad ad' σ) cA z.2) = (ad z.1, mj_e ad cA z.2) := by
          have h9 : (mj_w (mj_aus ad ad' σ) cA w)[kz2]? = some (mj_aus ad ad' σ z.1, mj_e (mj_aus ad ad' σ) cA z.2) := mj_w_at hkz3
          rw [hww, hkz2] at h9
          exact (Option.some.inj h9).symm
        rw [e9]
        refine (hat z hm).kept ?_
        rw [e1]
        exact hk _ (hat z hm).lt (apart z hm hne)
  have hD2 : va_D A (mj_w (mj_aus ad ad' σ) cA w2) := by
    -- where an entry's address comes from
    have orig : ∀ (k : Nat) (q : Nat × va_E), (mj_w (mj_aus ad ad' σ) cA w2)[k]? = some q → ∃ z, w2[k]? = some z ∧ q.1 = mj_aus ad ad' σ z.1 := by
      intro k q hq
      unfold mj_w at hq
      rw [List.getElem?_map] at hq
      cases hzz : w2[k]? with
      | none => rw [hzz] at hq; cases hq
      | some z =>
        rw [hzz] at hq
        have hq : (mj_aus ad ad' σ z.1, mj_e (mj_aus ad ad' σ) cA z.2) = q := Option.some.inj hq
        exact ⟨z, rfl, by rw [← hq]⟩
    have new1 : ∀ z ∈ mj_wr (mj_ff ρ) w', va_A (mj_w (fun q => ad (mj_ff ρ q)) cA wc) H.size (mj_aus ad ad' σ z.1) := by
      intro z hz9
      obtain ⟨k1, hk1, -⟩ := mj_in_at (ad := mj_aus ad ad' σ) (cA := cA) hz9
      rw [hw'] at hk1
      exact hD1.2 k1 _ hk1
    have inj2 : ∀ z ∈ w2, ∀ y ∈ w2, mj_aus ad ad' σ z.1 = mj_aus ad ad' σ y.1 → z.1 = y.1 := by
      intro z hz9 y hy9 he
      rcases h2 z hz9 with hm | ⟨hm, hne⟩
      · rcases h2 y hy9 with hn | ⟨hn, hne2⟩
        · obtain ⟨k1, hk1, hk1'⟩ := mj_in_at (ad := mj_aus ad ad' σ) (cA := cA) hm
          obtain ⟨k2, hk2, hk2'⟩ := mj_in_at (ad := mj_aus ad ad' σ) (cA := cA) hn
          rw [hw'] at hk1 hk2
          have := hD1.1 k1 k2 _ _ hk1 hk2 he
          subst this
          rw [Option.some.inj (hk1'.symm.trans hk2')]
        · exact absurd (by rw [← hold y hn, ← he]; exact new1 z hm) (apart y hn hne2)
      · rcases h2 y hy9 with hn | ⟨hn, hne2⟩
        · exact absurd (by rw [← hold z hm, he]; exact new1 y hn) (apart z hm hne)
        · obtain ⟨k1, hk1, hk1'⟩ := mj_in_at (ad := ad) (cA := cA) hm
          obtain ⟨k2, hk2, hk2'⟩ := mj_in_at (ad := ad) (cA := cA) hn
          have := hD.1 k1 k2 _ _ hk1 hk2 (by show ad z.1 = ad y.1; rw [← hold z hm, ← hold y hn]; exact he)
          subst this
          rw [Option.some.inj (hk1'.symm.trans hk2')]
    refine ⟨fun i j p1 q1 hp1 hq1 hpq => ?_, fun k q hq => ?_⟩
    · obtain ⟨z, hz9, ez⟩ := orig i p1 hp1
      obtain ⟨y, hy9, ey⟩ := orig j q1 hq1
      have hk9 := inj2 z (List.mem_of_getElem? hz9) y (List.mem_of_getElem? hy9) (by rw [← ez, ← ey]; exact hpq)
      obtain ⟨hi, ei⟩ := List.getElem?_eq_some_iff.mp hz9
      obtain ⟨hj, ej⟩ := List.getElem?_eq_some_iff.mp hy9
      have hpp := List.pairwise_iff_getElem.mp hpw2
      rcases Nat.lt_trichotomy i j with hlt | heq | hlt
      · exact absurd (by rw [ei, ej]; exact hk9) (hpp i j hi hj hlt)
      · exact heq
      · exact absurd (by rw [ei, ej]; exact hk9.symm) (hpp j i hj hi hlt)
    · obtain ⟨z, hz9, ez⟩ := orig k q hq
      rw [ez]
      rcases h2 z (List.mem_of_getElem? hz9) with hm | ⟨hm, -⟩
      · exact hAA _ (new1 z hm)
      · rw [hold z hm]
        obtain ⟨k1, hk1, -⟩ := mj_in_at (ad := ad) (cA := cA) hm
        exact hD.2 k1 _ hk1
  obtain ⟨t2, a1, b1⟩ := kk ad' T'.heap (locs ++ L) hP2 hD2
    ⟨Nat.le_trans hS.1 (by rw [e1]; exact hz), fun q h1 h3 => by rw [e1, hk q (Nat.lt_of_lt_of_le h1 hS.1) (fun z => h3 (hAA q z))]; exact hS.2.1 q h1 h3, fun q hq => by
      rcases List.mem_append.mp hq with h | h
      · exact hS.2.2 q h
      · exact hAA _ (hL q h)⟩ T' rfl X'
  refine ⟨t2, st t2 ?_, b1⟩
  have hstk : (r.map (mj_v ad')).toList ++ rest.map (mj_v ad) = st2.map (mj_v (mj_aus ad ad' σ)) := by
    rw [hst2, List.map_append, mj_aus_s hfs]
    congr 1
    cases r with
    | none => rfl
    | some x =>
      show [mj_v ad' x] = [mj_v (mj_aus ad ad' σ) (mj_v (mj_ff ρ) x)]
      rw [mj_v_v]
      have hx := List.all_eq_true.mp hsupr x List.mem_cons_self
      rw [mj_sv_eq hag hx]
  rw [hstk]
  exact a1
/-! what a method that makes cells is told besides: links to nest mates, arrays of references -/
abbrev mj_Zt : Type := List (String × Nat × MethodName × String) × List String
def mj_Z (Z : mj_Zt) (U : State) : Prop := (∀ z ∈ Z.1, va_Nw (.methodLinkNest z.1 z.2.1 z.2.2.1 z.2.2.2) U) ∧ ∀ C ∈ Z.2, va_AO C U
theorem mj_Z_warm {Z : mj_Zt} {s U : State} (hW : s.WarmedH U.vm) (h : mj_Z Z s) : mj_Z Z U := ⟨fun z hz => va_Nw.warmM hW (h.1 z hz), fun C hC => va_AO.moved hW.alike (h.2 C hC)⟩
def mj_EvZ (G : mj_G) (l : Launch) (D : va_G) (cA : Nat → ClassId) (Y : mj_N) (fr lo mc ms : Nat) (args : List Value) (w : mj_M) (K : List Nat) (Z : mj_Zt) (post : mj_R) : Prop :=
  ∀ (ad : Nat → Nat) (sz : Nat), Met l Y.1 (Cond.code Y.1 Y.2.1 Y.2.2.1 Y.2.2.2 :: G.2.1) { frames := fr, cells := mc, slots := ms, locals := lo } (va_Pc (args.map (mj_v ad)) (fun U => U.heap.size = sz ∧ va_P D G.1 (mj_w ad cA w) U.heap ∧ va_K D G.1 (mj_tys cA G.2.2) U ∧ va_D (fun _ => True) (mj_w ad cA w) ∧ mj_Z Z U)) (mj_Q G D cA (va_A (mj_w ad cA w) sz) ad (fun q => q ∈ K) post) mc ms (va_A (mj_w ad cA w) sz)
theorem mj_evZ {G : mj_G} {l : Launch} {D : va_G} {cA : Nat → ClassId} {Y : mj_N} {fr lo mc ms : Nat} {args : List Value} {w : mj_M} {K : List Nat} {Z : mj_Zt} {post : mj_R} {lv : mj_L} (hy : plainName Y.1.cls = true) (hlen : (lg_sl args).length ≤ Y.2.2.1) (hlv : lv_args 0 args = lv)
    (body : ∀ X : mj_X, mj_E G X l D cA Y fr lo mc ms (fun q => q ∈ K) post → mj_Z Z X.2.2.2.2.1 → mj_W G X 0 0 0 lv [] w) : mj_EvZ G l D cA Y fr lo mc ms args w K Z post := by
  intro ad sz
  refine Met.ofW (cc := Y.2.1) (maxL := Y.2.2.1) (ret := Y.2.2.2) hy rfl ?_
  intro p e s m args' below meth c s₁ B hml hv
  obtain ⟨rfl, hsz, hP, hK, hD0, hZ⟩ := hv
  have hts := atoms_spec (ws := Cond.code Y.1 Y.2.1 Y.2.2.1 Y.2.2.2 :: G.2.1) B.pre
  have hown := findClass_of_methodNamed B.named
  have hin := (name_of_methodNamed B.named B.method).1
  subst hsz
  have hD := hD0.self (sz := s.heap.size)
  have hA : ∀ q, s.heap.size ≤ q → va_A (mj_w ad cA w) s.heap.size q := fun q h => Or.inr h
  have hl := lv_entry (args.map (mj_v ad)) (n := Y.2.2.1) (by rw [mj_sl_len]; exact hlen)
  rw [lg_entry_eq]
  have hb := body (p, l, e, (headSpec (Cond.code Y.1 Y.2.1 Y.2.2.1 Y.2.2.2 :: G.2.1) { frames := fr, cells := mc, slots := ms, locals := lo }).room, s, m, (args.map (mj_v ad)).toArray, below, meth, c, MQ below (mj_Q G D cA (va_A (mj_w ad cA w) s.heap.size) ad (fun q => q ∈ K) post) (args.map (mj_v ad)).toArray s mc ms (va_A (mj_w ad cA w) s.heap.size), D, cA, va_A (mj_w ad cA w) s.heap.size, ad, (fun q => q ∈ K), Y.2.2.1)
    ⟨⟨B.exec, B.bytes, hml, rfl, hown, fun w h => hts w (List.mem_cons_of_mem _ h), hK, hA, hin⟩, rfl, rfl, rfl, rfl, rfl, rfl, rfl, rfl, rfl, B.returns, B.notSynchronized⟩ hZ
  refine hb ad s.heap [] _ (fun _ _ => rfl) hP hD va_S.rf ?_
  rw [← hlv, mj_l_args]
  exact hl
theorem mj_preZ_blind {G : mj_G} {D : va_G} {cA : Nat → ClassId} {av : List Value} {sz : Nat} {W0 : va_W} {Z : mj_Zt} : FrameBlind (va_Pc av (fun U => U.heap.size = sz ∧ va_P D G.1 W0 U.heap ∧ va_K D G.1 (mj_tys cA G.2.2) U ∧ va_D (fun _ => True) W0 ∧ mj_Z Z U)) := by
  intro a U g mk q
  obtain ⟨q0, q1, qP, qK, qD, qZ⟩ := q
  exact ⟨q0, q1, qP, va_K.moved (u := U) (U := U.calling g mk a) (Vm.Alike.refl U.vm) qK, qD, fun z hz => va_Nw.same (u := U) (U := U.calling g mk a) rfl rfl (qZ.1 z hz), fun C hC => va_AO.moved (u := U) (U := U.calling g mk a) (Vm.Alike.refl U.vm) (qZ.2 C hC)⟩
/-- what the tables must say of a constructor -/
def mj_IW (G : mj_G) (Y : mj_N) (n : Nat) : Prop := Y.1.name = "<init>" ∧ Cond.instanceMethod Y.1 ∈ G.2.1 ∧ Cond.initialized Y.1.cls ∈ G.2.1 ∧ Cond.code Y.1 Y.2.1 Y.2.2.1 none ∈ G.2.1 ∧ Y.2.2.2 = none ∧ Y.1.cls ≠ "java/lang/invoke/MethodHandle" ∧ Y.1.cls ≠ "java/lang/invoke/VarHandle" ∧ (parseMethodDescriptor Y.1.desc).map (fun d => d.parameters.length) = some n
section MJI
variable {G : mj_G} {X : mj_X} {l : Launch} {D : va_G} {cA : Nat → ClassId} {Y : mj_N} {fr lo mc ms : Nat} {kp : Nat → Prop} {post : mj_R} {cells slots pc : Nat} {lv : mj_L} {st : List Value} {w : mj_M}
/-- a constructor is called -/
theorem mj_callI0 (h : mj_E G X l D cA Y fr lo mc ms kp post) (hg : GoodIn G.2.1 G.2.1) {Z : mj_Zt} (hZ : mj_Z Z X.2.2.2.2.1) {Yc : mj_N} {frc loc mcc msc n index : Nat} {As : List Value} {a0 : Nat} {wc : mj_M} {Zc : mj_Zt} {K : List Nat} {postc : mj_R} (hev : mj_EvZ G l D cA Yc frc loc mcc msc (.ref a0 :: As) wc K Zc postc) (hiw : mj_IW G Yc n)
    (hlink : Cond.methodLink Y.1.cls index Yc.1 ∈ G.2.1 ∨ ∃ host, (Y.1.cls, index, Yc.1, host) ∈ Z.1) (hZc : (∀ z ∈ Zc.1, z ∈ Z.1) ∧ ∀ C ∈ Zc.2, C ∈ Z.2) (hd : decode Y.2.1 pc = .ok (.invokespecial index, 3)) (hn : As.length = n) (hroom : frc + 1 ≤ fr ∧ 8 + (Yc.2.2.1 + 11) + loc ≤ lo) (hcells : cells + mcc ≤ mc ∧ slots + msc ≤ ms)
    (ρ σ : List (Nat × Nat)) {rest : List Value} (hin : ∀ q ∈ mj_wr (mj_ff ρ) wc, q ∈ w) (hnd : va_nd ((mj_wr (mj_ff ρ) wc).map Prod.fst) = true) (hst : st = ((Value.ref a0 :: As).map (mj_v (mj_ff ρ))).reverse ++ rest) (hrr : (rest.map fun v => v.category).sum ≤ 8)
    (hK : ∀ q ∈ K, ∀ x ∈ σ, x.2 ≠ mj_ff ρ q) (hσ : ∀ x ∈ σ, mj_ff ρ x.1 = x.2) (hndσ : σ.Pairwise (fun a b => a.2 ≠ b.2)) (hfr : ∀ x ∈ σ, mj_nw x.2 w ∧ mj_nl x.2 lv ∧ mj_ns2 x.2 rest) (hkp : ∀ x ∈ σ, ¬ kp x.2)
    (kk : ∀ (r : Option Value) (w' : mj_M), postc r w' → mj_pw w → ∃ (st2 : List Value) (w2 : mj_M), (st2 = r.toList.map (mj_v (mj_ff ρ)) ++ rest ∧ mj_pw w2 ∧ ∀ q ∈ w2, q ∈ mj_wr (mj_ff ρ) w' ∨ (q ∈ w ∧ ∀ z ∈ mj_wr (mj_ff ρ) w', z.1 ≠ q.1)) ∧ (∀ z ∈ wc, ∃ y ∈ w', y.1 = z.1) ∧ mj_sw9 (K ++ σ.map Prod.fst) w' = true ∧ r.toList.all (mj_sv (K ++ σ.map Prod.fst)) = true ∧ mj_W G X (cells + mcc) (slots + msc) (pc + 3) lv st2 w2) : mj_W G X cells slots pc lv st w := by
  obtain ⟨p, l', e, R, s, m, args, below, meth, c, Q, D', cA', A, ad0, kp', nL⟩ := X
  obtain ⟨hB, rfl, rfl, rfl, rfl, hR1, hR2, hR3, hR4, hQ, hr, hlk⟩ := h
  have hZ : mj_Z Z s := hZ
  intro ad H locs ls h0 hP hD hS hl
  obtain ⟨hi1, hi2, hi3, hi4, hi5, hi6, hi7, hi8⟩ := hiw
  have hWc := mj_w_wr ad (mj_ff ρ) cA' wc
  have hPc : va_P D' G.1 (mj_w (fun q => ad (mj_ff ρ q)) cA' wc) H := by
    rw [← hWc]
    exact mj_P_in hP hin
  have hDc : va_D (fun _ => True) (mj_w (fun q => ad (mj_ff ρ q)) cA' wc) := by
    rw [← hWc]
    exact (mj_D_in hD hin hnd).weaken (fun _ _ _ _ => trivial)
  have hgood : GoodIn G.2.1 (Cond.code Yc.1 Yc.2.1 Yc.2.2.1 none :: G.2.1) := mj_gin hg (fun x hx => by
    rcases List.mem_cons.mp hx with rfl | hx
    · exact hi4
    · exact hx)
  have hM := hev (fun q => ad (mj_ff ρ q)) H.size
  rw [hi5] at hM
  have hstk : (F0 m pc ls (st.map (mj_v ad))).stack = (As.map (mj_v fun q => ad (mj_ff ρ q))).reverse ++ .ref (ad (mj_ff ρ a0)) :: rest.map (mj_v ad) := by
    show st.map (mj_v ad) = _
    have e9 : ((Value.ref a0 :: As).map (mj_v (mj_ff ρ))).map (mj_v ad) = (Value.ref a0 :: As).map (mj_v fun q => ad (mj_ff ρ q)) := by
      rw [List.map_map]
      exact List.map_congr_left (fun v _ => mj_v_v ad (mj_ff ρ) v)
    rw [hst, List.map_append, List.map_reverse, e9, List.map_cons, List.reverse_cons, List.append_assoc]
    rfl
  have hp : PreS s H (va_Pc ((Value.ref a0 :: As).map (mj_v fun q => ad (mj_ff ρ q))) (fun U => U.heap.size = H.size ∧ va_P D' G.1 (mj_w (fun q => ad (mj_ff ρ q)) cA' wc) U.heap ∧ va_K D' G.1 (mj_tys cA' G.2.2) U ∧ va_D (fun _ => True) (mj_w (fun q => ad (mj_ff ρ q)) cA' wc) ∧ mj_Z Zc U)) (.ref (ad (mj_ff ρ a0)) :: As.map (mj_v fun q => ad (mj_ff ρ q))) :=
    ⟨mj_preZ_blind, fun U hU hW => ⟨rfl, by rw [hU], by rw [hU]; exact hPc, va_K.moved hW.alike hB.2.2.2.2.2.2.1, hDc, mj_Z_warm hW ⟨fun z hz => hZ.1 z (hZc.1 z hz), fun C hC => hZ.2 C (hZc.2 C hC)⟩⟩⟩
  have hrun : va_Run p l' e R s m args below meth c H locs cells slots mcc msc (F0 m pc ls (st.map (mj_v ad))) (rest.map (mj_v ad)) (mj_Q G D' cA' (va_A (mj_w (fun q => ad (mj_ff ρ q)) cA' wc) H.size) (fun q => ad (mj_ff ρ q)) (fun q => q ∈ K) postc (Value.ref (ad (mj_ff ρ a0)) :: As.map (mj_v fun q => ad (mj_ff ρ q))).toArray) (va_A (mj_w (fun q => ad (mj_ff ρ q)) cA' wc) H.size) := by
    rcases hlink with hlink | ⟨host, hlink⟩
    · exact va_runI (b := ad (mj_ff ρ a0)) (As := As.map (mj_v fun q => ad (mj_ff ρ q))) (rest := rest.map (mj_v ad)) (g := F0 m pc ls (st.map (mj_v ad)))
        ⟨hB.1, hB.2.1, hB.2.2.1, hB.2.2.2.2.1, hB.2.2.2.2.2.1⟩ hM
        (cwI (R := R) n hB.2.2.2.2.2.1 hgood rfl rfl rfl (hB.2.2.2.2.2.1 _ hi3) (hB.2.2.2.2.2.1 _ hlink) (hB.2.2.2.2.2.1 _ hi2) hi1 ⟨hi6, hi7, hi8⟩ ⟨by rw [hR1]; exact hroom.1, by rw [hR4]; exact hroom.2⟩)
        hp rfl (by rw [List.length_map]; exact hn) hl.1 hstk (lv_room (by simpa [Function.comp_def, mj_v_cat] using hrr)) hd ⟨by rw [hR2]; exact hcells.1, by rw [hR3]; exact hcells.2⟩
    · exact va_runIN (b := ad (mj_ff ρ a0)) (As := As.map (mj_v fun q => ad (mj_ff ρ q))) (rest := rest.map (mj_v ad)) (g := F0 m pc ls (st.map (mj_v ad)))
        ⟨hB.1, hB.2.1, hB.2.2.1, hB.2.2.2.2.1, hB.2.2.2.2.2.1⟩ hM
        ⟨va_cnB (R := R) n hB.2.2.2.2.2.1 hgood rfl rfl rfl (hZ.1 _ hlink) (hB.2.2.2.2.2.1 _ hi3) ⟨hi6, hi7, hi8⟩ ⟨by rw [hR1]; exact hroom.1, by rw [hR4]; exact hroom.2⟩, hi1, hB.2.2.2.2.2.1 _ hi2⟩
        hp rfl (by rw [List.length_map]; exact hn) hl.1 hstk (lv_room (by simpa [Function.comp_def, mj_v_cat] using hrr)) hd ⟨by rw [hR2]; exact hcells.1, by rw [hR3]; exact hcells.2⟩
  refine mj_afterN (ρ := ρ) (σ := σ) (w := w) (wc := wc) (postc := postc) hrun hS hP hD hB.2.2.2.2.2.2.2.1 hin hK hσ hndσ (fun x hx => (hfr x hx).1) (fun x hx => (hfr x hx).2.2) (fun r w' hp hpw => ?_)
  obtain ⟨st2, w2, h1, h2, h3, h4, k⟩ := kk r w' hp hpw
  refine ⟨st2, w2, h1, h2, h3, h4, fun ad' H1 locs1 hP1 hD1 hS1 => k (mj_aus ad ad' σ) H1 locs1 ls (fun z hz => ?_) hP1 hD1 hS1 (by rw [mj_aus_l (fun x hx => (hfr x hx).2.1)]; exact hl)⟩
  rw [mj_aus_n (fun x hx e => hkp x hx (by rw [e]; exact hz))]
  exact h0 z hz
/-- Object's constructor -/
theorem mj_objI (h : mj_E G X l D cA Y fr lo mc ms kp post) {idx a : Nat} (h1 : Cond.methodLink Y.1.cls idx Lib.objectInit ∈ G.2.1) (h2 : Cond.instanceMethod Lib.objectInit ∈ G.2.1) (h3 : Cond.code Lib.objectInit ⟨#[0xb1]⟩ 1 none ∈ G.2.1) (hd : decode Y.2.1 pc = .ok (.invokespecial idx, 3)) (hf : 1 ≤ fr) (hlo : 20 ≤ lo) (hrr : (st.map fun v => v.category).sum ≤ 8)
    (kk : mj_W G X cells slots (pc + 3) lv st w) : mj_W G X cells slots pc lv (.ref a :: st) w := by
  obtain ⟨p, l', e, R, s, m, args, below, meth, c, Q, D', cA', A, ad0, kp', nL⟩ := X
  obtain ⟨hB, rfl, rfl, rfl, rfl, hR1, hR2, hR3, hR4, hQ, hr, hlk⟩ := h
  intro ad H locs ls h0 hP hD hS hl
  have hr8 : ((st.map (mj_v ad)).map fun v => v.category).sum ≤ 8 := by simpa [Function.comp_def, mj_v_cat] using hrr
  have hm0 : 2 * (F0 m pc ls ((Value.ref a :: st).map (mj_v ad))).monitorRoom + ((st.map (mj_v ad)).map fun v => v.category).sum ≤ 8 := lv_room hr8
  exact W.objInit hB.1 hB.2.1 hB.2.2.2.2.1 (hB.2.2.2.2.2.1 _ h1) (hB.2.2.2.2.2.1 _ h2) (hB.2.2.2.2.2.1 _ h3) rfl (hl.1.trans hB.2.2.1.symm) (a := ad a) (rest := st.map (mj_v ad)) rfl hd (by rw [hR1]; exact hf) (by rw [hR4]; omega) (kk ad H locs ls h0 hP hD hS hl)
end MJI
section MJJ
variable {G : mj_G} {X : mj_X} {M : mj_Y} {cells slots pc : Nat} {lv : mj_L} {st : List Value} {w w2 : mj_M}
/-- an array of references is made -/
theorem mj_newr (hB : mj_B G X M) {mc ms : Nat} {kp : Nat → Prop} (hX : mj_Rm X mc ms kp) {Z : mj_Zt} (hZ : mj_Z Z X.2.2.2.2.1) {C : String} {index t N' : Nat} {n : Int32} (hC : C ∈ Z.2) (h1 : Cond.classLink M.1 index C ∈ G.2.1) (hG : G.2.2[t]? = some (.object C)) (hn : ¬ n < 0) (hN : n.toNatClampNeg = N') (hbytes : N' * 4 ≤ 536870912)
    (hd : decode M.2.2.1 pc = .ok (.anewarray index, 3)) (hcells : cells + 1 ≤ mc) (hslots : slots + N' ≤ ms) (pn : Nat) (hkp : ¬ kp pn) (hf : mj_nw pn w ∧ mj_nl pn lv ∧ mj_ns2 pn st) {f : List (Option Nat)} (hfn : ∀ x ∈ f, x = none) (hw2 : mj_sn w (pn, .inl (t, N', .inr (.inr f))) some = some w2)
    (kk : mj_W G X (cells + 1) (slots + N') (pc + 3) lv (.ref pn :: st) w2) : mj_W G X cells slots pc lv (.int n :: st) w := by
  obtain ⟨p, l, e, R, s, m, args, below, meth, c, Q, D, cA, A, ad0, kp', nL⟩ := X
  obtain ⟨hx1, hx2, hx3⟩ := hX
  have hx1 : R.cells = mc := hx1
  have hx2 : R.slots = ms := hx2
  have hx3 : kp' = kp := hx3
  have hZ : mj_Z Z s := hZ
  subst hx3
  intro ad H locs ls h0 hP hD hS hl
  rw [mj_sn_eq] at hw2
  have hw2 := Option.some.inj hw2
  subst hw2
  refine va_newq hB.1 hB.2.1 hB.2.2.2.2.1 (hB.2.2.2.2.2.1 _ h1) (hZ.2 C hC) hB.2.2.2.2.2.2.1 hP hD hS hB.2.2.2.2.2.2.2.1 hn hN hbytes (by rw [hx1]; exact hcells) (by rw [hx2]; exact hslots) hd (fun q cB H1 hK1 hP1 hD1 hS1 => ?_)
  have hcB : cB = cA t := by
    obtain ⟨-, -, -, -, -, r1⟩ := (hK1.2 (mj_tys cA G.2.2).length (cB, .object C) (by simp)).2
    obtain ⟨-, -, -, -, -, r2⟩ := (hB.2.2.2.2.2.2.1.2 t (cA t, .object C) (mj_tys_at hG)).2
    exact Option.some.inj (r1.symm.trans r2)
  subst hcB
  have hgd : ∀ j, f.getD j none = none := by
    intro j
    rw [List.getD_eq_getElem?_getD]
    cases hj : f[j]? with
    | none => rfl
    | some x => exact hfn x (List.mem_of_getElem? hj)
  have hnc : ∀ ad : Nat → Nat, mj_e ad cA (.inl (t, N', .inr (.inr f))) = .inl (cA t, N', .inr (.inr (.inr (.inr (fun _ => none))))) := by
    intro ad
    show (Sum.inl (cA t, N', .inr (.inr (.inr (.inr (fun j => (f.getD j none).map ad))))) : va_E) = _
    have : (fun j => (f.getD j none).map ad) = (fun _ => none) := by
      funext j
      rw [hgd]
      rfl
    rw [this]
  have e1 : mj_w (mj_au ad pn q) cA (w ++ [(pn, .inl (t, N', .inr (.inr f)))]) = mj_w ad cA w ++ [(q, .inl (cA t, N', .inr (.inr (.inr (.inr (fun _ => none))))))] := by
    have e2 : mj_w (mj_au ad pn q) cA (w ++ [(pn, .inl (t, N', .inr (.inr f)))]) = mj_w (mj_au ad pn q) cA w ++ [(mj_au ad pn q pn, mj_e (mj_au ad pn q) cA (.inl (t, N', .inr (.inr f))))] := by
      unfold mj_w
      rw [List.map_append]
      rfl
    rw [e2, mj_au_w hf.1, hnc]
    show mj_w ad cA w ++ [((if pn = pn then q else ad pn), _)] = _
    rw [if_pos rfl]
  have k2 := kk (mj_au ad pn q) H1 locs ls (fun z hz => by
    show (if z = pn then q else ad z) = ad0 z
    rw [if_neg (show ¬ z = pn from fun h => hkp (h ▸ hz))]
    exact h0 z hz) (by rw [e1]; exact hP1) (by rw [e1]; exact hD1) hS1 (by rw [mj_au_l hf.2.1]; exact hl)
  have e3 : (Value.ref pn :: st).map (mj_v (mj_au ad pn q)) = .ref q :: st.map (mj_v ad) := by
    rw [List.map_cons, mj_au_s hf.2.2]
    show Value.ref (if pn = pn then q else ad pn) :: _ = _
    rw [if_pos rfl]
  rw [e3] at k2
  exact k2
/-- a reference is laid into an array -/
theorem mj_aast (hB : mj_B G X M) {a v t n ci : Nat} {i : Int32} {lst : List (Option Nat)} {fs : List Value} {r : vw_C} (hka : mj_lk w a some = some (.inl (t, n, .inr (.inr lst)))) (hkv : mj_lk w v some = some (.inr (ci, fs))) (hG : G.2.2[t]? = some (.object r.1)) (hc : G.1[ci]? = some r) (hi : vp_in i n) (hln : lst.length = n)
    (hd : decode M.2.2.1 pc = .ok (.aastore, 1)) (hw2 : mj_st w a (.inl (t, n, .inr (.inr (lst.set i.toNatClampNeg (some v))))) some = some w2) (kk : mj_W G X cells slots (pc + 1) lv st w2) : mj_W G X cells slots pc lv (.ref v :: .int i :: .ref a :: st) w := by
  obtain ⟨p, l, e, R, s, m, args, below, meth, c, Q, D, cA, A, ad0, kp', nL⟩ := X
  intro ad H locs ls h0 hP hD hS hl
  rcases mj_wk_or (β := mj_C) w a with h | ⟨x, q0, h, hq, -⟩
  · rw [h] at hka; cases hka
  rw [h] at hka
  have hka := Option.some.inj hka
  subst hka
  rcases mj_wk_or (β := mj_M) w a with h9 | ⟨x9, q9, h9, hq9, hs9⟩
  · rcases mj_lk_or (β := mj_M) w a with h8 | ⟨y, q8, h8, hq8⟩
    · obtain ⟨hq1, hq2⟩ := List.getElem?_eq_some_iff.mp hq
      exfalso
      have : ∀ (L : mj_M) (z : mj_C), (a, z) ∈ L → mj_lk (β := mj_C) L a some ≠ none := by
        intro L z hz
        induction L with
        | nil => cases hz
        | cons y L ih =>
          obtain ⟨yi, yv⟩ := y
          by_cases e9 : yi = a
          · subst e9
            simp only [mj_lk, mj_bq, cond_true]
            exact fun h => by cases h
          · simp only [mj_lk, mj_bn e9, cond_false]
            rcases List.mem_cons.mp hz with h7 | h7
            · exact absurd (Prod.mk.inj h7).1.symm e9
            · exact ih h7
      have h6 : ∀ (L : mj_M) (z : mj_C), (a, z) ∈ L → mj_lk (β := mj_M) L a (fun _ => some []) ≠ none := by
        intro L z hz
        induction L with
        | nil => cases hz
        | cons y L ih =>
          obtain ⟨yi, yv⟩ := y
          by_cases e9 : yi = a
          · subst e9
            simp only [mj_lk, mj_bq, cond_true]
            exact fun h => by cases h
          · simp only [mj_lk, mj_bn e9, cond_false]
            rcases List.mem_cons.mp hz with h7 | h7
            · exact absurd (Prod.mk.inj h7).1.symm e9
            · exact ih h7
      exact h6 w _ (List.mem_of_getElem? hq) (h8 _)
    · have := h9 (fun _ => some [])
      rw [h8] at this
      cases this
  rw [hs9] at hw2
  have hw2 := Option.some.inj hw2
  subst hw2
  obtain ⟨qv, hqv⟩ : ∃ qv : Nat, w[qv]? = some (v, (Sum.inr (ci, fs) : mj_C)) := by
    rcases mj_lk_or (β := mj_C) w v with h1 | ⟨y, q1, h1, h2⟩
    · rw [h1] at hkv; cases hkv
    · rw [h1] at hkv
      exact ⟨q1, by rw [h2, Option.some.inj hkv]⟩
  have hqq : q9 = q0 := by
    have := hD.1 q9 q0 _ _ (mj_w_at (ad := ad) (cA := cA) hq9) (mj_w_at (ad := ad) (cA := cA) hq) rfl
    exact this
  subst hqq
  refine va_astq (r := r) hB.1 hB.2.1 hB.2.2.2.2.2.2.1 hP hD hS q9 t qv ci (mj_w_at (ad := ad) (cA := cA) hq) (mj_tys_at hG) (mj_w_at (ad := ad) (cA := cA) hqv) hc hi hd (fun H1 locs1 hP1 hD1 hS1 => ?_)
  have hlt : i.toNatClampNeg < lst.length := by rw [hln]; exact Nat.not_le.mp fun q => hi (Or.inr q)
  have e5 : (fun j => ((lst.set i.toNatClampNeg (some v)).getD j none).map ad) = va_up (fun j => (lst.getD j none).map ad) i.toNatClampNeg (some (ad v)) := by
    funext j
    by_cases hj : j = i.toNatClampNeg
    · subst hj
      show _ = (if i.toNatClampNeg = i.toNatClampNeg then some (ad v) else _)
      rw [if_pos rfl, List.getD_eq_getElem?_getD, List.getElem?_set_self hlt]
      rfl
    · show _ = (if j = i.toNatClampNeg then some (ad v) else (lst.getD j none).map ad)
      rw [if_neg hj, List.getD_eq_getElem?_getD, List.getElem?_set_ne (fun h => hj h.symm), ← List.getD_eq_getElem?_getD]
  have e6 : mj_w ad cA (w.set q9 (a, .inl (t, n, .inr (.inr (lst.set i.toNatClampNeg (some v)))))) = (mj_w ad cA w).set q9 (ad a, .inl (cA t, n, .inr (.inr (.inr (.inr (va_up (fun j => (lst.getD j none).map ad) i.toNatClampNeg (some (ad v)))))))) := by
    rw [mj_w_set]
    show (mj_w ad cA w).set q9 (ad a, .inl (cA t, n, .inr (.inr (.inr (.inr (fun j => ((lst.set i.toNatClampNeg (some v)).getD j none).map ad)))))) = _
    rw [e5]
  exact kk ad H1 locs1 ls h0 (by rw [e6]; exact hP1) (by rw [e6]; exact hD1) hS1 hl
end MJJ
/-! the same by computing -/
def mj_fv (p : Nat) : Value → Bool
  | .ref a => !(Nat.beq a p)
  | _ => true
def mj_fo (p : Nat) : Option Nat → Bool
  | some a => !(Nat.beq a p)
  | none => true
def mj_fc (p : Nat) : mj_C → Bool
  | .inl (_, _, .inl _) => true
  | .inl (_, _, .inr (.inl _)) => true
  | .inl (_, _, .inr (.inr l)) => l.all (mj_fo p)
  | .inr (_, fs) => fs.all (mj_fv p)
def mj_fb (p : Nat) (w : mj_M) (lv : mj_L) (st : List Value) : Bool := w.all (fun q => !(Nat.beq q.1 p) && mj_fc p q.2) && (lv.all (fun q => mj_fv p q.2) && st.all (mj_fv p))
theorem mj_nb {a b : Nat} (h : (!(Nat.beq a b)) = true) : a ≠ b := by
  intro e
  subst e
  rw [mj_bq] at h
  cases h
theorem mj_fv_ok {p : Nat} {v : Value} (h : mj_fv p v = true) : mj_nv p v := by
  cases v with
  | ref a => exact mj_nb h
  | _ => trivial
theorem mj_fc_ok {p : Nat} {e : mj_C} (h : mj_fc p e = true) : mj_nc p e := by
  rcases e with ⟨t, n, x | x | x⟩ | ⟨c, fs⟩
  · trivial
  · trivial
  · intro hm
    have := List.all_eq_true.mp (show x.all (mj_fo p) = true from h) _ hm
    exact mj_nb this rfl
  · intro v hv
    exact mj_fv_ok (List.all_eq_true.mp (show fs.all (mj_fv p) = true from h) v hv)
theorem mj_fb_ok {p : Nat} {w : mj_M} {lv : mj_L} {st : List Value} (h : mj_fb p w lv st = true) : mj_nw p w ∧ mj_nl p lv ∧ mj_ns2 p st := by
  unfold mj_fb at h
  rw [Bool.and_eq_true, Bool.and_eq_true] at h
  refine ⟨fun q hq => ?_, fun q hq => mj_fv_ok (List.all_eq_true.mp h.2.1 q hq), fun v hv => mj_fv_ok (List.all_eq_true.mp h.2.2 v hv)⟩
  have := List.all_eq_true.mp h.1 q hq
  rw [Bool.and_eq_true] at this
  exact ⟨mj_nb this.1, mj_fc_ok this.2⟩
theorem mj_bl_no {L : List Nat} {a : Nat} (h : mj_bl L a = false) : ¬ a ∈ L := by
  intro hm
  induction L with
  | nil => cases hm
  | cons x L ih =>
    have h : (Nat.beq x a || mj_bl L a) = false := h
    rw [Bool.or_eq_false_iff] at h
    rcases List.mem_cons.mp hm with e | e
    · subst e
      rw [mj_bq] at h
      cases h.1
    · exact ih h.2 e
def mj_ndp : List (Nat × Nat) → Bool
  | [] => true
  | x :: σ => σ.all (fun y => !(Nat.beq x.2 y.2)) && mj_ndp σ
theorem mj_ndp_ok {σ : List (Nat × Nat)} (h : mj_ndp σ = true) : σ.Pairwise (fun a b => a.2 ≠ b.2) := by
  induction σ with
  | nil => exact List.Pairwise.nil
  | cons x σ ih =>
    have h : (σ.all (fun y => !(Nat.beq x.2 y.2)) && mj_ndp σ) = true := h
    rw [Bool.and_eq_true] at h
    exact List.pairwise_cons.mpr ⟨fun y hy => mj_nb (List.all_eq_true.mp h.1 y hy), ih h.2⟩
def mj_chk (K K0 : List Nat) (ρ σ : List (Nat × Nat)) (w : mj_M) (lv : mj_L) (rest : List Value) : Bool :=
  K.all (fun q => σ.all (fun x => !(Nat.beq x.2 (mj_ff ρ q)))) && (σ.all (fun x => Nat.beq (mj_ff ρ x.1) x.2) && (mj_ndp σ && σ.all (fun x => mj_fb x.2 w lv rest && !(mj_bl K0 x.2))))
def mj_apm {β : Type} : mj_M → mj_M → (mj_M → Option β) → Option β
  | [], x, k => k x
  | q :: w, x, k => mj_apm w x (fun l => k (q :: l))
theorem mj_apm_eq {β : Type} (w x : mj_M) (k : mj_M → Option β) : mj_apm w x k = k (w ++ x) := by
  induction w generalizing k with
  | nil => rfl
  | cons q w ih => simp only [mj_apm, ih, List.cons_append]
theorem mj_rm {G : mj_G} {X : mj_X} {l : Launch} {D : va_G} {cA : Nat → ClassId} {Y : mj_N} {fr lo mc ms : Nat} {kp : Nat → Prop} {post : mj_R} (h : mj_E G X l D cA Y fr lo mc ms kp post) : mj_Rm X mc ms kp := by
  obtain ⟨p, l', e, R, s, m, args, below, meth, c, Q, D', cA', A, ad0, kp', nL⟩ := X
  obtain ⟨hB, rfl, rfl, rfl, rfl, hR1, hR2, hR3, hR4, hQ, hr, hlk⟩ := h
  exact ⟨hR2, hR3, rfl⟩
section MJK
variable {G : mj_G} {X : mj_X} {l : Launch} {D : va_G} {cA : Nat → ClassId} {Y : mj_N} {fr lo mc ms : Nat} {K0 : List Nat} {post : mj_R} {cells slots pc : Nat} {lv : mj_L} {st : List Value} {w : mj_M}
theorem mj_k9 {K : List Nat} {σ ρ : List (Nat × Nat)} {wc w' w2 wn w3 wa wb : mj_M} {r : Option Value} {rest st2 : List Value} (h0 : w' = wa ++ wb) (h1 : wa.map Prod.fst = wc.map Prod.fst) (h2 : wb.map Prod.fst = σ.map Prod.fst) (h3 : mj_fin ρ r wa w rest = some (st2, w2)) (h4 : mj_rw ρ wb some = some wn) (h5 : mj_apm w2 wn some = some w3) (h6 : mj_sw9 (K ++ σ.map Prod.fst) w' = true) (h7 : r.toList.all (mj_sv (K ++ σ.map Prod.fst)) = true) (h8 : mj_W G X cells slots pc lv st2 w3) :
    ∃ (wa wb : mj_M) (st2 : List Value) (w2 wn w3 : mj_M), w' = wa ++ wb ∧ wa.map Prod.fst = wc.map Prod.fst ∧ wb.map Prod.fst = σ.map Prod.fst ∧ mj_fin ρ r wa w rest = some (st2, w2) ∧ mj_rw ρ wb some = some wn ∧ mj_apm w2 wn some = some w3 ∧ mj_sw9 (K ++ σ.map Prod.fst) w' = true ∧ r.toList.all (mj_sv (K ++ σ.map Prod.fst)) = true ∧ mj_W G X cells slots pc lv st2 w3 := ⟨wa, wb, st2, w2, wn, w3, h0, h1, h2, h3, h4, h5, h6, h7, h8⟩
/-- the world behind a call that made cells -/
theorem mj_w3 {K : List Nat} {ρ σ : List (Nat × Nat)} {wc w' wa wb w2 wn w3 : mj_M} {r : Option Value} {rest st2 : List Value} (hK0 : w' = wa ++ wb) (hka : wa.map Prod.fst = wc.map Prod.fst) (hkb : wb.map Prod.fst = σ.map Prod.fst) (hfin : mj_fin ρ r wa w rest = some (st2, w2)) (hrw : mj_rw ρ wb some = some wn) (hap : mj_apm w2 wn some = some w3) (hσ : ∀ x ∈ σ, mj_ff ρ x.1 = x.2) (hndσ : σ.Pairwise (fun a b => a.2 ≠ b.2)) (hfr : ∀ x ∈ σ, mj_nw x.2 w) (hpw : mj_pw w) :
    (st2 = r.toList.map (mj_v (mj_ff ρ)) ++ rest ∧ mj_pw w3 ∧ ∀ q ∈ w3, q ∈ mj_wr (mj_ff ρ) w' ∨ (q ∈ w ∧ ∀ z ∈ mj_wr (mj_ff ρ) w', z.1 ≠ q.1)) ∧ (∀ z ∈ wc, ∃ y ∈ w', y.1 = z.1) := by
  subst hK0
  obtain ⟨e1, e2, e3⟩ := mj_fin_eq hfin hpw
  have hwn := mj_rw_eq hrw
  rw [mj_apm_eq] at hap
  have hap := Option.some.inj hap
  subst hap
  have happ : mj_wr (mj_ff ρ) (wa ++ wb) = mj_wr (mj_ff ρ) wa ++ mj_wr (mj_ff ρ) wb := by unfold mj_wr; rw [List.map_append]
  have hnk : wn.map Prod.fst = σ.map Prod.snd := by
    rw [← hwn]
    unfold mj_wr
    rw [List.map_map]
    have hcomp : (Prod.fst ∘ fun q : Nat × mj_C => (mj_ff ρ q.1, mj_cr (mj_ff ρ) q.2)) = (mj_ff ρ) ∘ Prod.fst := rfl
    rw [hcomp, ← List.map_map, hkb, List.map_map]
    exact List.map_congr_left (fun x hx => hσ x hx)
  have hnew : ∀ z ∈ wn, ∃ x ∈ σ, z.1 = x.2 := by
    intro z hz
    have : z.1 ∈ σ.map Prod.snd := by rw [← hnk]; exact List.mem_map.mpr ⟨z, hz, rfl⟩
    obtain ⟨x, hx, hx1⟩ := List.mem_map.mp this
    exact ⟨x, hx, hx1.symm⟩
  have hpw2 : mj_pw w2 := by
    have h1 : (w2.map Prod.fst).Pairwise (· ≠ ·) := by rw [e2]; exact List.pairwise_map.mpr hpw
    exact List.pairwise_map.mp h1
  have hpwn : mj_pw wn := by
    have h1 : (wn.map Prod.fst).Pairwise (· ≠ ·) := by rw [hnk]; exact List.pairwise_map.mpr hndσ
    exact List.pairwise_map.mp h1
  refine ⟨⟨e1, ?_, ?_⟩, ?_⟩
  · refine List.pairwise_append.mpr ⟨hpw2, hpwn, fun a ha b hb he => ?_⟩
    obtain ⟨x, hx, hx1⟩ := hnew b hb
    have : a.1 ∈ w.map Prod.fst := by rw [← e2]; exact List.mem_map.mpr ⟨a, ha, rfl⟩
    obtain ⟨y, hy, hy1⟩ := List.mem_map.mp this
    exact (hfr x hx y hy).1 (by rw [hy1, he, hx1])
  · intro q hq
    rw [happ]
    rcases List.mem_append.mp hq with hq | hq
    · rcases e3 q hq with h | ⟨h, h9⟩
      · exact Or.inl (List.mem_append_left _ h)
      · refine Or.inr ⟨h, fun z hz => ?_⟩
        rcases List.mem_append.mp hz with hz | hz
        · exact h9 z hz
        · rw [hwn] at hz
          obtain ⟨x, hx, hx1⟩ := hnew z hz
          rw [hx1]
          exact fun e => (hfr x hx q h).1 e.symm
    · exact Or.inl (List.mem_append_right _ (by rw [hwn]; exact hq))
  · intro z hz
    have : z.1 ∈ wa.map Prod.fst := by rw [hka]; exact List.mem_map.mpr ⟨z, hz, rfl⟩
    obtain ⟨y, hy, hy1⟩ := List.mem_map.mp this
    exact ⟨y, List.mem_append_left _ hy, hy1⟩
theorem mj_callI (h : mj_E G X l D cA Y fr lo mc ms (fun q => q ∈ K0) post) (hg : GoodIn G.2.1 G.2.1) {Z : mj_Zt} (hZ : mj_Z Z X.2.2.2.2.1) {Yc : mj_N} {frc loc mcc msc n index : Nat} {As : List Value} {a0 : Nat} {wc : mj_M} {Zc : mj_Zt} {K : List Nat} {postc : mj_R} (hev : mj_EvZ G l D cA Yc frc loc mcc msc (.ref a0 :: As) wc K Zc postc) (hiw : mj_IW G Yc n)
    (hlink : Cond.methodLink Y.1.cls index Yc.1 ∈ G.2.1 ∨ ∃ host, (Y.1.cls, index, Yc.1, host) ∈ Z.1) (hZc : (∀ z ∈ Zc.1, z ∈ Z.1) ∧ ∀ C ∈ Zc.2, C ∈ Z.2) (hd : decode Y.2.1 pc = .ok (.invokespecial index, 3)) (hn : As.length = n) (hroom : frc + 1 ≤ fr ∧ 8 + (Yc.2.2.1 + 11) + loc ≤ lo) (hcells : cells + mcc ≤ mc ∧ slots + msc ≤ ms)
    (ρ σ : List (Nat × Nat)) {wx : mj_M} {rest as2 : List Value} (hsub : mj_ct ρ wc w = some (wx, wx)) (hnd : va_nd (wx.map Prod.fst) = true) (hargs : mj_rl ρ (.ref a0 :: As) some = some as2) (hst : st = as2.reverse ++ rest) (hrr : (rest.map fun v => v.category).sum ≤ 8) (hchk : mj_chk K K0 ρ σ w lv rest = true)
    (kk : ∀ (r : Option Value) (w' : mj_M), postc r w' → ∃ (wa wb : mj_M) (st2 : List Value) (w2 wn w3 : mj_M), w' = wa ++ wb ∧ wa.map Prod.fst = wc.map Prod.fst ∧ wb.map Prod.fst = σ.map Prod.fst ∧ mj_fin ρ r wa w rest = some (st2, w2) ∧ mj_rw ρ wb some = some wn ∧ mj_apm w2 wn some = some w3 ∧ mj_sw9 (K ++ σ.map Prod.fst) w' = true ∧ r.toList.all (mj_sv (K ++ σ.map Prod.fst)) = true ∧ mj_W G X (cells + mcc) (slots + msc) (pc + 3) lv st2 w3) : mj_W G X cells slots pc lv st w := by
  obtain ⟨hwx, hin⟩ := mj_ct_in hsub
  rw [hwx] at hnd
  have hargs2 := mj_rl_eq hargs
  rw [hargs2] at hst
  unfold mj_chk at hchk
  rw [Bool.and_eq_true, Bool.and_eq_true, Bool.and_eq_true] at hchk
  obtain ⟨c1, c2, c3, c4⟩ := hchk
  have hσ : ∀ x ∈ σ, mj_ff ρ x.1 = x.2 := fun x hx => Nat.eq_of_beq_eq_true (List.all_eq_true.mp c2 x hx)
  have hndσ := mj_ndp_ok c3
  have hf : ∀ x ∈ σ, (mj_nw x.2 w ∧ mj_nl x.2 lv ∧ mj_ns2 x.2 rest) ∧ ¬ x.2 ∈ K0 := by
    intro x hx
    have := List.all_eq_true.mp c4 x hx
    rw [Bool.and_eq_true] at this
    refine ⟨mj_fb_ok this.1, mj_bl_no ?_⟩
    cases hb : mj_bl K0 x.2 with
    | false => rfl
    | true => rw [hb] at this; cases this.2
  refine mj_callI0 h hg hZ hev hiw hlink hZc hd hn hroom hcells ρ σ hin hnd hst hrr (fun q hq x hx => mj_nb (List.all_eq_true.mp (List.all_eq_true.mp c1 q hq) x hx)) hσ hndσ (fun x hx => (hf x hx).1) (fun x hx => (hf x hx).2) (fun r w' hp hpw => ?_)
  obtain ⟨wa, wb, st2, w2, wn, w3, k0, k1, k2, k3, k4, k5, k6, k7, k8⟩ := kk r w' hp
  obtain ⟨g1, g2⟩ := mj_w3 (K := K) k0 k1 k2 k3 k4 k5 hσ hndσ (fun x hx => (hf x hx).1.1) hpw
  exact ⟨st2, w3, g1, g2, k6, k7, k8⟩
end MJK
