/-! calls of the law and of its helpers -/
section MJV
variable {G : mj_G} {X : mj_X} {l : Launch} {D : va_G} {cA : Nat → ClassId} {Y : mj_N} {fr lo mc ms : Nat} {kp : Nat → Prop} {K0 : List Nat} {post : mj_R} {cells slots pc : Nat} {lv : mj_L} {st : List Value} {w : mj_M}
/-- a method of an object is called, and makes cells -/
theorem mj_callN0 (h : mj_E G X l D cA Y fr lo mc ms kp post) (hg : GoodIn G.2.1 G.2.1) {Z : mj_Zt} (hZ : mj_Z Z X.2.2.2.2.1) {Yc : mj_N} {frc loc mcc msc n index : Nat} {As : List Value} {a0 : Nat} {wc : mj_M} {Zc : mj_Zt} {K : List Nat} {postc : mj_R} (hev : mj_EvZ G l D cA Yc frc loc mcc msc (.ref a0 :: As) wc K Zc postc) (hvw : mj_VW G Yc n)
    (hlink : Cond.methodLink Y.1.cls index Yc.1 ∈ G.2.1) (hZc : (∀ z ∈ Zc.1, z ∈ Z.1) ∧ ∀ C ∈ Zc.2, C ∈ Z.2) (hd : decode Y.2.1 pc = .ok (.invokevirtual index, 3)) (hn : As.length = n) (hroom : frc + 1 ≤ fr ∧ 8 + (Yc.2.2.1 + 11) + loc ≤ lo) (hcells : cells + mcc ≤ mc ∧ slots + msc ≤ ms)
    (ρ σ : List (Nat × Nat)) {rest : List Value} {ci : Nat} {fs : List Value} {T : u_T} {N : Nat} (hrec : mj_lk wc a0 some = some (.inr (ci, fs))) (hci : G.1[ci]? = some (Yc.1.cls, T, N)) (hin : ∀ q ∈ mj_wr (mj_ff ρ) wc, q ∈ w) (hnd : va_nd ((mj_wr (mj_ff ρ) wc).map Prod.fst) = true) (hst : st = ((Value.ref a0 :: As).map (mj_v (mj_ff ρ))).reverse ++ rest) (hrr : (rest.map fun v => v.category).sum ≤ 8)
    (hK : ∀ q ∈ K, ∀ x ∈ σ, x.2 ≠ mj_ff ρ q) (hσ : ∀ x ∈ σ, mj_ff ρ x.1 = x.2) (hndσ : σ.Pairwise (fun a b => a.2 ≠ b.2)) (hfr : ∀ x ∈ σ, mj_nw x.2 w ∧ mj_nl x.2 lv ∧ mj_ns2 x.2 rest) (hkp : ∀ x ∈ σ, ¬ kp x.2)
    (kk : ∀ (r : Option Value) (w' : mj_M), postc r w' → mj_pw w → ∃ (st2 : List Value) (w2 : mj_M), (st2 = r.toList.map (mj_v (mj_ff ρ)) ++ rest ∧ mj_pw w2 ∧ ∀ q ∈ w2, q ∈ mj_wr (mj_ff ρ) w' ∨ (q ∈ w ∧ ∀ z ∈ mj_wr (mj_ff ρ) w', z.1 ≠ q.1)) ∧ (∀ z ∈ wc, ∃ y ∈ w', y.1 = z.1) ∧ mj_sw9 (K ++ σ.map Prod.fst) w' = true ∧ r.toList.all (mj_sv (K ++ σ.map Prod.fst)) = true ∧ mj_W G X (cells + mcc) (slots + msc) (pc + 3) lv st2 w2) : mj_W G X cells slots pc lv st w := by
  obtain ⟨p, l', e, R, s, m, args, below, meth, c, Q, D', cA', A, ad0, kp', nL⟩ := X
  obtain ⟨hB, rfl, rfl, rfl, rfl, hR1, hR2, hR3, hR4, hQ, hr, hlk⟩ := h
  have hZ : mj_Z Z s := hZ
  intro ad H locs ls h0 hP hD hS hl
  obtain ⟨hv1, hv2, hv3, hv4, hv5, hv6, hv7⟩ := hvw
  have hWc := mj_w_wr ad (mj_ff ρ) cA' wc
  have hPc : va_P D' G.1 (mj_w (fun q => ad (mj_ff ρ q)) cA' wc) H := by
    rw [← hWc]
    exact mj_P_in hP hin
  have hDc : va_D (fun _ => True) (mj_w (fun q => ad (mj_ff ρ q)) cA' wc) := by
    rw [← hWc]
    exact (mj_D_in hD hin hnd).weaken (fun _ _ _ _ => trivial)
  obtain ⟨q0, hq0⟩ : ∃ q0 : Nat, wc[q0]? = some (a0, (Sum.inr (ci, fs) : mj_C)) := by
    rcases mj_lk_or (β := mj_C) wc a0 with h1 | ⟨v, q0, h1, h2⟩
    · rw [h1] at hrec; cases hrec
    · rw [h1] at hrec
      exact ⟨q0, by rw [h2, Option.some.inj hrec]⟩
  have hgood : GoodIn G.2.1 (wsV Y.1.cls index Yc.1.cls Yc.1 (Cond.code Yc.1 Yc.2.1 Yc.2.2.1 Yc.2.2.2 :: G.2.1)) := by
    refine mj_gin hg (fun x hx => ?_)
    unfold wsV at hx
    rcases List.mem_append.mp hx with hx | hx
    · simp only [List.mem_cons, List.not_mem_nil, or_false] at hx
      rcases hx with rfl | rfl | rfl | rfl
      · exact hlink
      · exact hv1
      · exact hv2
      · exact hv3
    · rcases List.mem_cons.mp hx with rfl | hx
      · exact hv4
      · exact hx
  have hstk : (F0 m pc ls (st.map (mj_v ad))).stack = (As.map (mj_v fun q => ad (mj_ff ρ q))).reverse ++ .ref (ad (mj_ff ρ a0)) :: rest.map (mj_v ad) := by
    show st.map (mj_v ad) = _
    have e9 : ((Value.ref a0 :: As).map (mj_v (mj_ff ρ))).map (mj_v ad) = (Value.ref a0 :: As).map (mj_v fun q => ad (mj_ff ρ q)) := by
      rw [List.map_map]
      exact List.map_congr_left (fun v _ => mj_v_v ad (mj_ff ρ) v)
    rw [hst, List.map_append, List.map_reverse, e9, List.map_cons, List.reverse_cons, List.append_assoc]
    rfl
  have hrun := va_runV (C := Yc.1.cls) (b := ad (mj_ff ρ a0)) (As := As.map (mj_v fun q => ad (mj_ff ρ q))) (rest := rest.map (mj_v ad)) (g := F0 m pc ls (st.map (mj_v ad))) (cells := cells) (slots := slots) (locs := locs) (below := below) (meth := meth) (e := e) (H := H)
    ⟨hB.1, hB.2.1, hB.2.2.1, hB.2.2.2.2.1, hB.2.2.2.2.2.1⟩ (hev (fun q => ad (mj_ff ρ q)) H.size)
    (cwV (R := R) n hB.2.2.2.2.2.1 hgood rfl rfl rfl ⟨rfl, hv5, hv6, hv7⟩ ⟨by rw [hR1]; exact hroom.1, by rw [hR4]; exact hroom.2⟩)
    ⟨mj_preZ_blind, va_recv hB.2.2.2.2.2.2.1 hPc hci (mj_w_at hq0), fun U hU hW => ⟨rfl, by rw [hU], by rw [hU]; exact hPc, va_K.moved hW.alike hB.2.2.2.2.2.2.1, hDc, mj_Z_warm hW ⟨fun z hz => hZ.1 z (hZc.1 z hz), fun C hC => hZ.2 C (hZc.2 C hC)⟩⟩⟩
    rfl (by rw [List.length_map]; exact hn) hl.1 hstk (lv_room (by simpa [Function.comp_def, mj_v_cat] using hrr)) hd ⟨by rw [hR2]; exact hcells.1, by rw [hR3]; exact hcells.2⟩
  refine mj_afterN (ρ := ρ) (σ := σ) (w := w) (wc := wc) (postc := postc) hrun hS hP hD hB.2.2.2.2.2.2.2.1 hin hK hσ hndσ (fun x hx => (hfr x hx).1) (fun x hx => (hfr x hx).2.2) (fun r w' hp hpw => ?_)
  obtain ⟨st2, w2, h1, h2, h3, h4, k⟩ := kk r w' hp hpw
  refine ⟨st2, w2, h1, h2, h3, h4, fun ad' H1 locs1 hP1 hD1 hS1 => k (mj_aus ad ad' σ) H1 locs1 ls (fun z hz => ?_) hP1 hD1 hS1 (by rw [mj_aus_l (fun x hx => (hfr x hx).2.1)]; exact hl)⟩
  rw [mj_aus_n (fun x hx e => hkp x hx (by rw [e]; exact hz))]
  exact h0 z hz
theorem mj_callN (h : mj_E G X l D cA Y fr lo mc ms (fun q => q ∈ K0) post) (hg : GoodIn G.2.1 G.2.1) {Z : mj_Zt} (hZ : mj_Z Z X.2.2.2.2.1) {Yc : mj_N} {frc loc mcc msc n index : Nat} {As : List Value} {a0 : Nat} {wc : mj_M} {Zc : mj_Zt} {K : List Nat} {postc : mj_R} (hev : mj_EvZ G l D cA Yc frc loc mcc msc (.ref a0 :: As) wc K Zc postc) (hvw : mj_VW G Yc n)
    (hlink : Cond.methodLink Y.1.cls index Yc.1 ∈ G.2.1) (hZc : (∀ z ∈ Zc.1, z ∈ Z.1) ∧ ∀ C ∈ Zc.2, C ∈ Z.2) (hd : decode Y.2.1 pc = .ok (.invokevirtual index, 3)) (hn : As.length = n) (hroom : frc + 1 ≤ fr ∧ 8 + (Yc.2.2.1 + 11) + loc ≤ lo) (hcells : cells + mcc ≤ mc ∧ slots + msc ≤ ms)
    (ρ σ : List (Nat × Nat)) {wx : mj_M} {rest as2 : List Value} {ci : Nat} {fs : List Value} {T : u_T} {N : Nat} (hrec : mj_lk wc a0 some = some (.inr (ci, fs))) (hci : G.1[ci]? = some (Yc.1.cls, T, N)) (hsub : mj_ct ρ wc w = some (wx, wx)) (hnd : va_nd (wx.map Prod.fst) = true) (hargs : mj_rl ρ (.ref a0 :: As) some = some as2) (hst : st = as2.reverse ++ rest) (hrr : (rest.map fun v => v.category).sum ≤ 8) (hchk : mj_chk K K0 ρ σ w lv rest = true)
    (kk : ∀ (r : Option Value) (w' : mj_M), postc r w' → ∃ (wa wb : mj_M) (st2 : List Value) (w2 wn w3 : mj_M), w' = wa ++ wb ∧ wa.map Prod.fst = wc.map Prod.fst ∧ wb.map Prod.fst = σ.map Prod.fst ∧ mj_fin ρ r wa w rest = some (st2, w2) ∧ mj_rw ρ wb some = some wn ∧ mj_apm w2 wn some = some w3 ∧ mj_sw9 (K ++ σ.map Prod.fst) w' = true ∧ r.toList.all (mj_sv (K ++ σ.map Prod.fst)) = true ∧ mj_W G X (cells + mcc) (slots + msc) (pc + 3) lv st2 w3) : mj_W G X cells slots pc lv st w := by
  obtain ⟨hwx, hin⟩ := mj_ct_in hsub
  rw [hwx] at hnd
  have hargs2 := mj_rl_eq hargs
  rw [hargs2] at hst
  unfold mj_chk at hchk
  rw [Bool.and_eq_true, Bool.and_eq_true, Bool.and_eq_true] at hchk
  obtain ⟨c1, c2, c3, c4⟩ := hchk
  have hσ : ∀ x ∈ σ, mj_ff ρ x.1 = x.2 := fun x hx => Nat.eq_of_beq_eq_true (List.all_eq_true.mp c2 x hx)
  have hndσ := mj_ndp_ok c3
  have hf : ∀ x ∈ σ, (mj_nw x.2 w ∧ mj_nl x.2 lv ∧ mj_ns2 x.2 rest) ∧ ¬ x.2 ∈ K0 := by
    intro x hx
    have := List.all_eq_true.mp c4 x hx
    rw [Bool.and_eq_true] at this
    refine ⟨mj_fb_ok this.1, mj_bl_no ?_⟩
    cases hb : mj_bl K0 x.2 with
    | false => rfl
    | true => rw [hb] at this; cases this.2
  refine mj_callN0 h hg hZ hev hvw hlink hZc hd hn hroom hcells ρ σ hrec hci hin hnd hst hrr (fun q hq x hx => mj_nb (List.all_eq_true.mp (List.all_eq_true.mp c1 q hq) x hx)) hσ hndσ (fun x hx => (hf x hx).1) (fun x hx => (hf x hx).2) (fun r w' hp hpw => ?_)
  obtain ⟨wa, wb, st2, w2, wn, w3, k0, k1, k2, k3, k4, k5, k6, k7, k8⟩ := kk r w' hp
  obtain ⟨g1, g2⟩ := mj_w3 (K := K) k0 k1 k2 k3 k4 k5 hσ hndσ (fun x hx => (hf x hx).1.1) hpw
  exact ⟨st2, w3, g1, g2, k6, k7, k8⟩
end MJV
section MJL
variable {G : mj_G} {X : mj_X} {M : mj_Y} {cells slots pc : Nat} {lv : mj_L} {st : List Value} {w w2 : mj_M}
/-- a long is laid into an array -/
theorem mj_lasto (hB : mj_B G X M) {a t n : Nat} {i : Int32} {x : Int64} {f : Nat → Int64} (hka : mj_lk w a some = some (.inl (t, n, .inr (.inl f)))) (hG : G.2.2[t]? = some .long) (hi : vp_in i n) (hd : decode M.2.2.1 pc = .ok (.lastore, 1))
    (hw2 : mj_st w a (.inl (t, n, .inr (.inl (vp_updL f i.toNatClampNeg x)))) some = some w2) (kk : mj_W G X cells slots (pc + 1) lv st w2) : mj_W G X cells slots pc lv (.long x :: .int i :: .ref a :: st) w := by
  obtain ⟨p, l, e, R, s, m, args, below, meth, c, Q, D, cA, A, ad0, kp', nL⟩ := X
  intro ad H locs ls h0 hP hD hS hl
  rcases mj_wk_or (β := mj_C) w a with h | ⟨x9, q0, h, hq, -⟩
  · rw [h] at hka; cases hka
  rw [h] at hka
  have hka := Option.some.inj hka
  subst hka
  rcases mj_wk_or (β := mj_M) w a with h9 | ⟨x9, q9, h9, hq9, hs9⟩
  · exfalso
    have h6 : ∀ (L : mj_M) (z : mj_C), (a, z) ∈ L → mj_lk (β := mj_M) L a (fun _ => some []) ≠ none := by
      intro L z hz
      induction L with
      | nil => cases hz
      | cons y L ih =>
        obtain ⟨yi, yv⟩ := y
        by_cases e9 : yi = a
        · subst e9
          simp only [mj_lk, mj_bq, cond_true]
          exact fun h => by cases h
        · simp only [mj_lk, mj_bn e9, cond_false]
          rcases List.mem_cons.mp hz with h7 | h7
          · exact absurd (Prod.mk.inj h7).1.symm e9
          · exact ih h7
    exact h6 w _ (List.mem_of_getElem? hq) (h9 _)
  rw [hs9] at hw2
  have hw2 := Option.some.inj hw2
  subst hw2
  have hqq : q9 = q0 := hD.1 q9 q0 _ _ (mj_w_at (ad := ad) (cA := cA) hq9) (mj_w_at (ad := ad) (cA := cA) hq) rfl
  subst hqq
  exact va_last hB.1 hB.2.1 hB.2.2.2.2.2.2.1 hP hD hS q9 t (mj_w_at (ad := ad) (cA := cA) hq) (mj_tys_at hG) hi hd (fun H1 locs1 hP1 hD1 hS1 => kk ad H1 locs1 ls h0 (by rw [mj_w_set]; exact hP1) (by rw [mj_w_set]; exact hD1) hS1 hl)
theorem mj_laldo (hB : mj_B G X M) {a t n : Nat} {i : Int32} {f : Nat → Int64} (hka : mj_lk w a some = some (.inl (t, n, .inr (.inl f)))) (hG : G.2.2[t]? = some .long) (hi : vp_in i n) (hd : decode M.2.2.1 pc = .ok (.laload, 1))
    (kk : mj_W G X cells slots (pc + 1) lv (.long (f i.toNatClampNeg) :: st) w) : mj_W G X cells slots pc lv (.int i :: .ref a :: st) w := by
  obtain ⟨p, l, e, R, s, m, args, below, meth, c, Q, D, cA, A, ad0, kp', nL⟩ := X
  intro ad H locs ls h0 hP hD hS hl
  rcases mj_wk_or (β := mj_C) w a with h | ⟨x9, q0, h, hq, -⟩
  · rw [h] at hka; cases hka
  rw [h] at hka
  have hka := Option.some.inj hka
  subst hka
  exact va_lald hB.1 hB.2.1 hB.2.2.2.2.2.2.1 hP q0 t (mj_w_at (ad := ad) (cA := cA) hq) (mj_tys_at hG) hi hd (kk ad H locs ls h0 hP hD hS hl)
/-- the law's argument: place sp holds the script -/
def mj_Sp (X : mj_X) (sp L : Nat) (xs : Nat → Int32) : Prop := match X with
  | (_, _, _, _, s, _, _, _, _, _, _, _, _, A, ad0, kp, _) => va_X (ad0 sp) L xs s s.heap ∧ ad0 sp < s.heap.size ∧ ¬ A (ad0 sp) ∧ kp sp
theorem mj_sld (hB : mj_B G X M) {sp L : Nat} {xs : Nat → Int32} (hX : mj_Sp X sp L xs) {i : Int32} (hi : vp_in i L) (hd : decode M.2.2.1 pc = .ok (.iaload, 1)) (kk : mj_W G X cells slots (pc + 1) lv (.int (xs i.toNatClampNeg) :: st) w) : mj_W G X cells slots pc lv (.int i :: .ref sp :: st) w := by
  obtain ⟨p, l, e, R, s, m, args, below, meth, c, Q, D, cA, A, ad0, kp', nL⟩ := X
  obtain ⟨h1, h2, h3, h4⟩ := hX
  intro ad H locs ls h0 hP hD hS hl
  have e9 : mj_v ad (.ref sp) = .ref (ad0 sp) := by
    show Value.ref (ad sp) = _
    rw [h0 sp h4]
  rw [List.map_cons, List.map_cons, e9]
  exact va_sld hB.1 hB.2.1 h1 h2 h3 hS hi hd (kk ad H locs ls h0 hP hD hS hl)
theorem mj_slen (hB : mj_B G X M) {sp L : Nat} {xs : Nat → Int32} (hX : mj_Sp X sp L xs) (hd : decode M.2.2.1 pc = .ok (.arraylength, 1)) (kk : mj_W G X cells slots (pc + 1) lv (.int (nI L) :: st) w) : mj_W G X cells slots pc lv (.ref sp :: st) w := by
  obtain ⟨p, l, e, R, s, m, args, below, meth, c, Q, D, cA, A, ad0, kp', nL⟩ := X
  obtain ⟨h1, h2, h3, h4⟩ := hX
  intro ad H locs ls h0 hP hD hS hl
  have e9 : mj_v ad (.ref sp) = .ref (ad0 sp) := by
    show Value.ref (ad sp) = _
    rw [h0 sp h4]
  rw [List.map_cons, e9]
  exact va_slen hB.1 hB.2.1 h1 h2 h3 hS hd (kk ad H locs ls h0 hP hD hS hl)
end MJL
/-! methods with handlers -/
def mj_EvW (G : mj_G) (l : Launch) (D : va_G) (cA : Nat → ClassId) (Y : mj_N) (hh : List (Nat × Nat × Nat × Nat)) (fr lo mc ms : Nat) (args : List Value) (w : mj_M) (K : List Nat) (Z : mj_Zt) (TL : List Cond) (n : Nat) (post : mj_R) : Prop :=
  ∀ (ad : Nat → Nat) (sz : Nat), Met l Y.1 (Cond.codeWith Y.1 Y.2.1 Y.2.2.1 Y.2.2.2 hh :: G.2.1) { frames := fr, cells := mc, slots := ms, locals := lo } (va_Pc (args.map (mj_v ad)) (fun U => U.heap.size = sz ∧ va_P D G.1 (mj_w ad cA w) U.heap ∧ va_K D G.1 (mj_tys cA G.2.2) U ∧ va_D (fun q => n ≤ q) (mj_w ad cA w) ∧ mj_Z Z U ∧ n ≤ sz ∧ mj_Th TL n U)) (mj_Q G D cA (va_A (mj_w ad cA w) sz) ad (fun q => q ∈ K) post) mc ms (va_A (mj_w ad cA w) sz)
theorem mj_evW {G : mj_G} {l : Launch} {D : va_G} {cA : Nat → ClassId} {Y : mj_N} {hh : List (Nat × Nat × Nat × Nat)} {fr lo mc ms : Nat} {args : List Value} {w : mj_M} {K : List Nat} {Z : mj_Zt} {TL : List Cond} {n : Nat} {post : mj_R} {lv : mj_L} (hy : plainName Y.1.cls = true) (hlen : (lg_sl args).length ≤ Y.2.2.1) (hlv : lv_args 0 args = lv)
    (body : ∀ X : mj_X, mj_E G X l D cA Y fr lo mc ms (fun q => q ∈ K) post → mj_Z Z X.2.2.2.2.1 → mj_Xc X hh TL n → mj_W G X 0 0 0 lv [] w) : mj_EvW G l D cA Y hh fr lo mc ms args w K Z TL n post := by
  intro ad sz
  refine MetFree.of_bodyS (code := Y.2.1) (maxLocals := Y.2.2.1) (ret := Y.2.2.2) hy ?_ ?_
  · intro args s m h hn
    obtain ⟨m', meth, c, h0, h1, h2, h3, h4, -, h5, h6, -⟩ := Cond.codeWith_spec (atoms_spec (ws := Cond.codeWith Y.1 Y.2.1 Y.2.2.1 Y.2.2.2 hh :: G.2.1) h _ List.mem_cons_self)
    cases h0.symm.trans hn
    exact ⟨meth, c, h1, h2, h3, h4, h5, h6⟩
  · intro p e s m args' below meth c s₁ B hml hv _
    obtain ⟨rfl, hsz, hP, hK, hD0, hZ, hnz, hTh⟩ := hv
    have hts := atoms_spec (ws := Cond.codeWith Y.1 Y.2.1 Y.2.2.1 Y.2.2.2 hh :: G.2.1) B.pre
    obtain ⟨m', meth', c', k0, k1, k2, -, -, k3, -, -, -⟩ := Cond.codeWith_spec (hts _ List.mem_cons_self)
    cases k0.symm.trans B.named
    cases B.method.symm.trans k1
    have X₀ := Stand.of_body B
    cases X₀.code.symm.trans k2
    have hown := findClass_of_methodNamed B.named
    have hin := (name_of_methodNamed B.named B.method).1
    subst hsz
    have hD := hD0.self (sz := s.heap.size)
    have hA : ∀ q, s.heap.size ≤ q → va_A (mj_w ad cA w) s.heap.size q := fun q h => Or.inr h
    have hAn : ∀ q, va_A (mj_w ad cA w) s.heap.size q → n ≤ q := by
      rintro q (⟨k, e1, hk⟩ | hk)
      · exact hD0.2 k _ hk
      · exact Nat.le_trans hnz hk
    have hl := lv_entry (args.map (mj_v ad)) (n := Y.2.2.1) (by rw [mj_sl_len]; exact hlen)
    rw [lg_entry_eq]
    have hh0 : s₁.heap = s.heap := by rw [B.state]; rfl
    have hb := body (p, l, e, (headSpec (Cond.codeWith Y.1 Y.2.1 Y.2.2.1 Y.2.2.2 hh :: G.2.1) { frames := fr, cells := mc, slots := ms, locals := lo }).room, s, m, (args.map (mj_v ad)).toArray, below, meth, c, MQ below (mj_Q G D cA (va_A (mj_w ad cA w) s.heap.size) ad (fun q => q ∈ K) post) (args.map (mj_v ad)).toArray s mc ms (va_A (mj_w ad cA w) s.heap.size), D, cA, va_A (mj_w ad cA w) s.heap.size, ad, (fun q => q ∈ K), Y.2.2.1)
      ⟨⟨B.exec, B.bytes, hml, rfl, hown, fun w h => hts w (List.mem_cons_of_mem _ h), hK, hA, hin⟩, rfl, rfl, rfl, rfl, rfl, rfl, rfl, rfl, rfl, B.returns, B.notSynchronized⟩ hZ ⟨k3, hTh, hAn⟩
    have K9 := hb ad s.heap [] _ (fun _ _ => rfl) hP hD va_S.rf (by rw [← hlv, mj_l_args]; exact hl)
    obtain ⟨t, a1, oc, b1, b2, b3⟩ := K9 s₁ hh0 X₀
    exact ⟨t, oc, a1, b1, b2, b3⟩
