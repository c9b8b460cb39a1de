/-! The law's loop: what both sides hold (by program: wip/whole/src_law.py) -/
abbrev lwT0 : Type := (Nat) × (Nat) × (Nat → Int32) × (Int32) × (Nat → Int32) × (Nat → Int32) × (Nat → Int32) × (Nat → Int32) × (Nat → Int32) × (Nat → Bool)
abbrev lwT1 : Type := (Nat → Nat → Int32) × (Nat → Nat → Int32) × (Nat → Nat) × (Nat → Int32) × (Nat → Int32) × (Nat → Int32) × (Nat → Bool) × (Nat → Bool) × (Nat → Int32) × (Int32) × (Nat)
abbrev lwT2 : Type := (Int32) × (Int32) × (Int32) × (Int32) × (Int32) × (Int32) × (Int32) × (Int32) × (Nat → Int32) × (Nat → Int32) × (Int32) × (Nat → Int32) × (Nat → Int32) × (Int32)
abbrev lwT3 : Type := (Int32) × (Int32) × (Nat → Int32) × (Nat → Int32) × (Nat → Int32) × (Nat → Int32) × (Nat → Int32) × (Nat → Int32)
abbrev lwT4 : Type := (Nat → Int32) × (Nat → Int32) × (Nat → Int32) × (Nat → Int32) × (Nat → Int32) × (Nat → Int32) × (Nat → Int32) × (Int32) × (Int32) × (Nat → Int32) × (Nat → Int32) × (Nat → Int32) × (Nat → Int32)
abbrev lwT5 : Type := (mR) × (Nat → Int32) × (Nat → Int32) × (Nat → List oT) × (Nat) × (mj_M) × (Nat → Int64)
abbrev lwT : Type := lwT0 × lwT1 × lwT2 × lwT3 × lwT4 × lwT5
abbrev lwT.rc (T : lwT) : Nat := T.1.1
abbrev lwT.n (T : lwT) : Nat := T.1.2.1
abbrev lwT.f (T : lwT) : Nat → Int32 := T.1.2.2.1
abbrev lwT.ph (T : lwT) : Int32 := T.1.2.2.2.1
abbrev lwT.ch (T : lwT) : Nat → Int32 := T.1.2.2.2.2.1
abbrev lwT.cp (T : lwT) : Nat → Int32 := T.1.2.2.2.2.2.1
abbrev lwT.sh (T : lwT) : Nat → Int32 := T.1.2.2.2.2.2.2.1
abbrev lwT.sp (T : lwT) : Nat → Int32 := T.1.2.2.2.2.2.2.2.1
abbrev lwT.ha (T : lwT) : Nat → Int32 := T.1.2.2.2.2.2.2.2.2.1
abbrev lwT.lv (T : lwT) : Nat → Bool := T.1.2.2.2.2.2.2.2.2.2
abbrev lwT.tx (T : lwT) : Nat → Nat → Int32 := T.2.1.1
abbrev lwT.hd (T : lwT) : Nat → Nat → Int32 := T.2.1.2.1
abbrev lwT.ts (T : lwT) : Nat → Nat := T.2.1.2.2.1
abbrev lwT.hs (T : lwT) : Nat → Int32 := T.2.1.2.2.2.1
abbrev lwT.nx (T : lwT) : Nat → Int32 := T.2.1.2.2.2.2.1
abbrev lwT.rr (T : lwT) : Nat → Int32 := T.2.1.2.2.2.2.2.1
abbrev lwT.bg (T : lwT) : Nat → Bool := T.2.1.2.2.2.2.2.2.1
abbrev lwT.en (T : lwT) : Nat → Bool := T.2.1.2.2.2.2.2.2.2.1
abbrev lwT.rows (T : lwT) : Nat → Int32 := T.2.1.2.2.2.2.2.2.2.2.1
abbrev lwT.tot (T : lwT) : Int32 := T.2.1.2.2.2.2.2.2.2.2.2.1
abbrev lwT.a (T : lwT) : Nat := T.2.1.2.2.2.2.2.2.2.2.2.2
abbrev lwT.k1 (T : lwT) : Int32 := T.2.2.1.1
abbrev lwT.k2 (T : lwT) : Int32 := T.2.2.1.2.1
abbrev lwT.k3 (T : lwT) : Int32 := T.2.2.1.2.2.1
abbrev lwT.k4 (T : lwT) : Int32 := T.2.2.1.2.2.2.1
abbrev lwT.k5 (T : lwT) : Int32 := T.2.2.1.2.2.2.2.1
abbrev lwT.k6 (T : lwT) : Int32 := T.2.2.1.2.2.2.2.2.1
abbrev lwT.k7 (T : lwT) : Int32 := T.2.2.1.2.2.2.2.2.2.1
abbrev lwT.k8 (T : lwT) : Int32 := T.2.2.1.2.2.2.2.2.2.2.1
abbrev lwT.bm (T : lwT) : Nat → Int32 := T.2.2.1.2.2.2.2.2.2.2.2.1
abbrev lwT.bl (T : lwT) : Nat → Int32 := T.2.2.1.2.2.2.2.2.2.2.2.2.1
abbrev lwT.bt (T : lwT) : Int32 := T.2.2.1.2.2.2.2.2.2.2.2.2.2.1
abbrev lwT.fm (T : lwT) : Nat → Int32 := T.2.2.1.2.2.2.2.2.2.2.2.2.2.2.1
abbrev lwT.fl (T : lwT) : Nat → Int32 := T.2.2.1.2.2.2.2.2.2.2.2.2.2.2.2.1
abbrev lwT.ft (T : lwT) : Int32 := T.2.2.1.2.2.2.2.2.2.2.2.2.2.2.2.2
abbrev lwT.th (T : lwT) : Int32 := T.2.2.2.1.1
abbrev lwT.ck (T : lwT) : Int32 := T.2.2.2.1.2.1
abbrev lwT.us (T : lwT) : Nat → Int32 := T.2.2.2.1.2.2.1
abbrev lwT.rh (T : lwT) : Nat → Int32 := T.2.2.2.1.2.2.2.1
abbrev lwT.rp9 (T : lwT) : Nat → Int32 := T.2.2.2.1.2.2.2.2.1
abbrev lwT.rs (T : lwT) : Nat → Int32 := T.2.2.2.1.2.2.2.2.2.1
abbrev lwT.rq (T : lwT) : Nat → Int32 := T.2.2.2.1.2.2.2.2.2.2.1
abbrev lwT.hr (T : lwT) : Nat → Int32 := T.2.2.2.1.2.2.2.2.2.2.2
abbrev lwT.bgn (T : lwT) : Nat → Int32 := T.2.2.2.2.1.1
abbrev lwT.nxR (T : lwT) : Nat → Int32 := T.2.2.2.2.1.2.1
abbrev lwT.enR (T : lwT) : Nat → Int32 := T.2.2.2.2.1.2.2.1
abbrev lwT.sz (T : lwT) : Nat → Int32 := T.2.2.2.2.1.2.2.2.1
abbrev lwT.txR (T : lwT) : Nat → Int32 := T.2.2.2.2.1.2.2.2.2.1
abbrev lwT.hl (T : lwT) : Nat → Int32 := T.2.2.2.2.1.2.2.2.2.2.1
abbrev lwT.hb (T : lwT) : Nat → Int32 := T.2.2.2.2.1.2.2.2.2.2.2.1
abbrev lwT.tr (T : lwT) : Int32 := T.2.2.2.2.1.2.2.2.2.2.2.2.1
abbrev lwT.al (T : lwT) : Int32 := T.2.2.2.2.1.2.2.2.2.2.2.2.2.1
abbrev lwT.ra (T : lwT) : Nat → Int32 := T.2.2.2.2.1.2.2.2.2.2.2.2.2.2.1
abbrev lwT.lvR (T : lwT) : Nat → Int32 := T.2.2.2.2.1.2.2.2.2.2.2.2.2.2.2.1
abbrev lwT.pl (T : lwT) : Nat → Int32 := T.2.2.2.2.1.2.2.2.2.2.2.2.2.2.2.2.1
abbrev lwT.at9 (T : lwT) : Nat → Int32 := T.2.2.2.2.1.2.2.2.2.2.2.2.2.2.2.2.2
abbrev lwT.R (T : lwT) : mR := T.2.2.2.2.2.1
abbrev lwT.wy (T : lwT) : Nat → Int32 := T.2.2.2.2.2.2.1
abbrev lwT.pt (T : lwT) : Nat → Int32 := T.2.2.2.2.2.2.2.1
abbrev lwT.os (T : lwT) : Nat → List oT := T.2.2.2.2.2.2.2.2.1
abbrev lwT.N (T : lwT) : Nat := T.2.2.2.2.2.2.2.2.2.1
abbrev lwT.F (T : lwT) : mj_M := T.2.2.2.2.2.2.2.2.2.2.1
abbrev lwT.g (T : lwT) : Nat → Int64 := T.2.2.2.2.2.2.2.2.2.2.2
/-- the cells but the rules'; the class counts rc rules -/
abbrev lwC (st : Bool) (rc : Nat) (T : lwT) : mj_M := [(50, cSw st rc), (40, cPk T.k1 T.k2 T.k3 T.k4 T.k5 T.k6 T.k7 T.k8), (51, cWi 52 T.n), (52, cIs 100 T.f), (0, .inr (2, [.ref 1, .int T.ph])), (1, .inl (3, 4, .inr (.inr [some 2, some 3, some 4, some 5]))), (2, cFl 6 7 (T.ch 0) (T.cp 0) (T.sh 0) (T.sp 0) (T.ha 0) (T.lv 0)), (3, cFl 8 9 (T.ch 1) (T.cp 1) (T.sh 1) (T.sp 1) (T.ha 1) (T.lv 1)), (4, cFl 10 11 (T.ch 2) (T.cp 2) (T.sh 2) (T.sp 2) (T.ha 2) (T.lv 2)), (5, cFl 12 13 (T.ch 3) (T.cp 3) (T.sh 3) (T.sp 3) (T.ha 3) (T.lv 3)), (6, cSm 14 15 (T.ts 0) (T.hs 0) (T.nx 0) (T.rr 0) (T.bg 0) (T.en 0)), (14, cIs 80 (T.tx 0)), (15, cIs 32 (T.hd 0)), (7, cSm 16 17 (T.ts 1) (T.hs 1) (T.nx 1) (T.rr 1) (T.bg 1) (T.en 1)), (16, cIs 80 (T.tx 1)), (17, cIs 32 (T.hd 1)), (8, cSm 18 19 (T.ts 2) (T.hs 2) (T.nx 2) (T.rr 2) (T.bg 2) (T.en 2)), (18, cIs 80 (T.tx 2)), (19, cIs 32 (T.hd 2)), (9, cSm 20 21 (T.ts 3) (T.hs 3) (T.nx 3) (T.rr 3) (T.bg 3) (T.en 3)), (20, cIs 80 (T.tx 3)), (21, cIs 32 (T.hd 3)), (10, cSm 22 23 (T.ts 4) (T.hs 4) (T.nx 4) (T.rr 4) (T.bg 4) (T.en 4)), (22, cIs 80 (T.tx 4)), (23, cIs 32 (T.hd 4)), (11, cSm 24 25 (T.ts 5) (T.hs 5) (T.nx 5) (T.rr 5) (T.bg 5) (T.en 5)), (24, cIs 80 (T.tx 5)), (25, cIs 32 (T.hd 5)), (12, cSm 26 27 (T.ts 6) (T.hs 6) (T.nx 6) (T.rr 6) (T.bg 6) (T.en 6)), (26, cIs 80 (T.tx 6)), (27, cIs 32 (T.hd 6)), (13, cSm 28 29 (T.ts 7) (T.hs 7) (T.nx 7) (T.rr 7) (T.bg 7) (T.en 7)), (28, cIs 80 (T.tx 7)), (29, cIs 32 (T.hd 7)), (60, .inr (7, [.ref 61, .ref 62])), (61, cMk 63 64 T.bt), (63, cBs T.bm), (64, cIs 81 T.bl), (62, cMk 65 66 T.ft), (65, cBs T.fm), (66, cIs 81 T.fl), (70, .inr (0, [.ref 71, .int T.tot, .int (nI T.a - 1)])), (71, cIs 96 T.rows), (199, cMd T.th st T.n T.ck T.rc T.tr T.al), (203, cIs 100 T.f), (204, cZs 4 T.us), (205, cIs 4 T.rh), (206, cIs 4 T.rp9), (207, cIs 4 T.rs), (208, cIs 4 T.rq), (209, cIs 4 T.hr), (211, cZs 8 T.bgn), (212, cIs 8 T.nxR), (213, cZs 8 T.enR), (214, cIs 8 T.sz), (215, cIs 640 T.txR), (216, cZs 256 T.hl), (217, cIs 256 T.hb), (218, cZs 48 T.ra), (220, cIs 6 T.R.rw9), (221, cIs 6 T.R.rp), (222, cIs 6 T.R.op), (223, cIs 18 T.R.cs), (224, cIs 108 T.R.ct), (225, cIs 18 T.R.mk'), (226, cIs 18 T.R.lst), (227, cIs 18 T.R.spn), (229, cIs 3 T.lvR), (230, cIs 3 T.pl), (232, cIs 96 T.at9), (300, cLg T.g)]
abbrev lwF (st : Bool) (T : lwT) : mj_M := lwC st T.rc T
abbrev Z_Lw : mj_Zt := (Z_Sw.1, ["StreamWatch$Flow", "StreamWatch$Rule", "StreamWatch$Option"])
abbrev lwR (T : lwT) : mj_M := (53, cRs (rlOf T.rc)) :: T.F
/-- what holds between the two at each round -/
abbrev lwI (T : lwT) : Prop := (T.n ≤ 100) ∧ (uByt T.f) ∧ (uRel T.ph T.ch T.cp T.sh T.sp T.ha T.lv T.tx T.hd T.ts T.hs T.nx T.rr T.bg T.en T.rows T.tot T.a T.ck T.us T.rh T.rp9 T.rs T.rq T.hr T.bgn T.nxR T.enR T.sz T.txR T.hl T.hb T.ra T.at9 T.al T.N) ∧ (uRul T.rc T.wy T.pt T.os T.R) ∧ (∀ i, i < 18 → T.R.cs (mIx i) = nI (T.R.cN i)) ∧ (∀ i, i < 18 → T.R.cN i ≤ 6) ∧ (rF T.rc T.wy T.pt T.os T.F)
theorem lwI.n1 {T : lwT} (I : lwI T) : T.n ≤ 100 := I.1
theorem lwI.by1 {T : lwT} (I : lwI T) : uByt T.f := I.2.1
theorem lwI.rel {T : lwT} (I : lwI T) : uRel T.ph T.ch T.cp T.sh T.sp T.ha T.lv T.tx T.hd T.ts T.hs T.nx T.rr T.bg T.en T.rows T.tot T.a T.ck T.us T.rh T.rp9 T.rs T.rq T.hr T.bgn T.nxR T.enR T.sz T.txR T.hl T.hb T.ra T.at9 T.al T.N := I.2.2.1
theorem lwI.rul {T : lwT} (I : lwI T) : uRul T.rc T.wy T.pt T.os T.R := I.2.2.2.1
theorem lwI.cs1 {T : lwT} (I : lwI T) : ∀ i, i < 18 → T.R.cs (mIx i) = nI (T.R.cN i) := I.2.2.2.2.1
theorem lwI.cs2 {T : lwT} (I : lwI T) : ∀ i, i < 18 → T.R.cN i ≤ 6 := I.2.2.2.2.2.1
theorem lwI.fr1 {T : lwT} (I : lwI T) : rF T.rc T.wy T.pt T.os T.F := I.2.2.2.2.2.2
abbrev lwL (i : Nat) : mj_L := [(0, .ref 301), (1, .ref 50), (2, .ref 199), (3, .ref 300), (4, .int (nI i))]
def lwP : mj_R := fun r _ => r = some (.int 1)
abbrev lwM : Nat × Nat := (601024, 7292999)
/-- the law's activation -/
abbrev lwE (X : mj_X) (l : Launch) (D : va_G) (cA : Nat → ClassId) (L : Nat) (xs : Nat → Int32) (n0 : Nat) : Prop := mj_E zG X l D cA m_Lw_law 10 374 601024 7292999 (fun q => q ∈ [301]) lwP ∧ mj_Z Z_Lw X.2.2.2.2.1 ∧ mj_Xc X [] TLx n0 ∧ mj_Sp X 301 L xs ∧ L ≤ 4097 ∧ l.flags = pinnedFlags ++ [noTraceFlag]
section LWE
variable {X : mj_X} {l : Launch} {D : va_G} {cA : Nat → ClassId} {L : Nat} {xs : Nat → Int32} {n0 : Nat}
theorem lwE.h (E : lwE X l D cA L xs n0) : mj_E zG X l D cA m_Lw_law 10 374 601024 7292999 (fun q => q ∈ [301]) lwP := E.1
theorem lwE.z (E : lwE X l D cA L xs n0) : mj_Z Z_Lw X.2.2.2.2.1 := E.2.1
theorem lwE.x (E : lwE X l D cA L xs n0) : mj_Xc X [] TLx n0 := E.2.2.1
theorem lwE.sp (E : lwE X l D cA L xs n0) : mj_Sp X 301 L xs := E.2.2.2.1
theorem lwE.hL (E : lwE X l D cA L xs n0) : L ≤ 4097 := E.2.2.2.2.1
theorem lwE.fl (E : lwE X l D cA L xs n0) : l.flags = pinnedFlags ++ [noTraceFlag] := E.2.2.2.2.2
end LWE
/-- the loop goes on from its head with i -/
def lwG (st : Bool) (X : mj_X) (i : Nat) : Prop := ∀ T : lwT, lwI T → mj_W zG X (100 + i) (4000 + i) 33 (lwL i) [] (lwF st T ++ lwR T)
theorem mj_sl2 {G : mj_G} {X : mj_X} {M : mj_Y} {cells slots pc : Nat} {lv : mj_L} {st : List Value} {w : mj_M} (hB : mj_B G X M) {sp L : Nat} {xs : Nat → Int32} (hX : mj_Sp X sp L xs) (hL : L ≤ 4097) {i k : Nat} {c v : Int32} (hc : c = nI k) (hi : i + k < L) (hv : xs (i + k) = v) (hd : decode M.2.2.1 pc = .ok (.iaload, 1)) (kk : mj_W G X cells slots (pc + 1) lv (.int v :: st) w) : mj_W G X cells slots pc lv (.int (nI i + c) :: .ref sp :: st) w := by
  rw [hc, nI_add]
  refine mj_sld hB hX (vp_in_nI hi (by omega)) hd ?_
  rw [nI_clamp (by omega), hv]
  exact kk
theorem lw_end {st : Bool} {X : mj_X} {l : Launch} {D : va_G} {cA : Nat → ClassId} {L n0 : Nat} {xs : Nat → Int32} (E : lwE X l D cA L xs n0) {i : Nat} (k : lwG st X (i + 8)) {T : lwT} (I : lwI T) {cells slots : Nat} (h1 : cells ≤ 100 + i + 8) (h2 : slots ≤ 4000 + i + 8) : mj_W zG X cells slots 831 (lwL i) [] (lwF st T ++ lwR T) := by
  refine mj_widen h1 h2 ?_
  refine mj_blk E.h.1 b_Lw_law_831 rfl trivial ?_
  have k2 := k T I
  unfold lwL at k2
  rw [← nI_add i 8] at k2
  refine mj_lsub (lv' := [(0, .ref 301), (1, .ref 50), (2, .ref 199), (3, .ref 300), (4, .int (nI i + nI 8))]) (fun q hq => ?_) k2
  simp only [List.mem_cons, List.not_mem_nil, or_false] at hq ⊢
  rcases hq with rfl | rfl | rfl | rfl | rfl <;> simp [nI]
/-- both answers are the same: on -/
theorem lw_eq {X : mj_X} {l : Launch} {D : va_G} {cA : Nat → ClassId} {L n0 : Nat} {xs : Nat → Int32} (E : lwE X l D cA L xs n0) {cells slots pc : Nat} {lv : mj_L} {w : mj_M} {x y : Int32} {off : Int} {tgt : Nat} (e : x = y) (hd : decode m_Lw_law.2.1 pc = .ok (.if_icmp .eq off, 3)) (ht : (pc : Int) + off = (tgt : Int)) (kt : mj_W zG X cells slots tgt lv [] w) : mj_W zG X cells slots pc lv [.int y, .int x] w :=
  mj_iceq E.h.1 hd ht (fun _ => kt) (fun h => absurd e h)
