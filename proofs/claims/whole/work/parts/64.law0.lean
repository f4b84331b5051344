
/-! ===== the law's world: the WarmGossip (0 to 53), the Model (54 to 67) ===== -/
def mkL (a b : WM) : WM := fun c => if c < 54 then a c else b (c - 54)
theorem em_LX {G : GE} {ad : Nat → Nat} {a b : WM} : EM 68 54 ad ad (shL G ad) (shX G ad) (mkL a b) a (fun u => mkL u b) := by
  refine ⟨id, fun k hk => ⟨by show k < 68; omega, rfl, ?_, fun f => ?_⟩, fun _ _ _ _ h => h, fun u => ⟨fun k hk => ?_, fun i hi h => ?_⟩⟩
  · exact (if_pos hk).symm
  · show shX G ad k f = if k < 54 then shX G ad k f else _
    exact (if_pos hk).symm
  · exact if_pos hk
  · have hn : ¬ i < 54 := fun q => h i q rfl
    show (if i < 54 then u i else b (i - 54)) = if i < 54 then a i else b (i - 54)
    rw [if_neg hn, if_neg hn]
theorem em_LM {G : GE} {ad : Nat → Nat} {a b : WM} : EM 68 14 ad (fun k => ad (54 + k)) (shL G ad) (shM G (fun k => ad (54 + k))) (mkL a b) b (fun u => mkL a u) := by
  refine ⟨fun k => 54 + k, fun k hk => ⟨by show 54 + k < 68; omega, rfl, ?_, fun f => ?_⟩, fun j k _ _ h => by have h : 54 + j = 54 + k := h; omega, fun u => ⟨fun k hk => ?_, fun i hi h => ?_⟩⟩
  · show b k = if 54 + k < 54 then _ else b (54 + k - 54)
    rw [if_neg (by omega), Nat.add_sub_cancel_left]
  · show shM G (fun k => ad (54 + k)) k f = if 54 + k < 54 then _ else shM G (fun j => ad (54 + j)) (54 + k - 54) f
    rw [if_neg (by omega), Nat.add_sub_cancel_left]
  · show (if 54 + k < 54 then _ else u (54 + k - 54)) = u k
    rw [if_neg (by omega), Nat.add_sub_cancel_left]
  · have hn : i < 54 := by
      rcases Nat.lt_or_ge i 54 with q | q
      · exact q
      · exact absurd (show 54 + (i - 54) = i by omega) (h (i - 54) (by omega))
    show (if i < 54 then a i else u (i - 54)) = if i < 54 then a i else b (i - 54)
    rw [if_pos hn, if_pos hn]
section ALW
variable {p : Program} {l : Launch} {e : Env} {R : Room} {s : State} {m : MethodId} {args : Array Value} {below : List Frame} {meth : Method} {c : Code} {G : GE} {A : Nat → Prop} {N : Nat} {ad : Nat → Nat} {sh : SH} {nL cs sl : Nat} {Q : State → Prop} {cc : ByteArray} {own : String} {pc : Nat} {ls : LV} {st : List Value} {M : WM}
theorem a_sld (C0 : Cx p s m args meth c G A N ad cc own nL) {b L : Nat} {xs : Nat → Int32} (hX : va_X b L xs s s.heap) (hbl : b < s.heap.size) (hbA : ¬ A b) {i : Int32} (j : Nat) (hin : vp_in i L) (hj : i.toNatClampNeg = j) (d : decode cc pc = .ok (.iaload, 1)) (k : AW p l e R s m args below meth c G A N ad sh nL cs sl Q (pc + 1) ls (.int (xs j) :: st) M) : AW p l e R s m args below meth c G A N ad sh nL cs sl Q pc ls (.int i :: .ref b :: st) M :=
  fun H locs la hP hS hl => va_sld C0.1 C0.2.1 hX hbl hbA hS hin d (by rw [hj]; exact k H locs la hP hS hl)
theorem a_slen (C0 : Cx p s m args meth c G A N ad cc own nL) {b L : Nat} {xs : Nat → Int32} (hX : va_X b L xs s s.heap) (hbl : b < s.heap.size) (hbA : ¬ A b) (d : decode cc pc = .ok (.arraylength, 1)) (k : AW p l e R s m args below meth c G A N ad sh nL cs sl Q (pc + 1) ls (.int (Int32.ofNat L) :: st) M) : AW p l e R s m args below meth c G A N ad sh nL cs sl Q pc ls (.ref b :: st) M :=
  fun H locs la hP hS hl => va_slen C0.1 C0.2.1 hX hbl hbA hS d (k H locs la hP hS hl)
end ALW
/-! what class and model have in common between two calls; mb: no minute is later -/
def KI (o3 : Int32) (K : WM) (X2 : RW) (mb : Nat) : Prop := o3 = 0 ∨ (o3 = 1 ∧ ∃ nK mK, RP K X2 nK mK ∧ mK ≤ mb)
def INV (mb : Nat) (O : RW) (N K B R S H Z : WM) (OM SM : RW) (XM : WM) : Prop :=
  (∃ nT mm, RP N SM nT mm ∧ mm ≤ mb) ∧ OM 4 = O 3 ∧ KI (O 3) K (XM 2) mb ∧ (∃ bn, TR B OM XM bn) ∧ (∃ cn, O 6 = nI cn ∧ cn ≤ 10 ∧ OM 13 = O 6 ∧ RowR (XM 6) R) ∧ RSh S XM ∧ RHe H XM ∧ DR Z OM XM
theorem TR.x {B : WM} {O O2 : RW} {X X2 : WM} {n : Nat} (h : TR B O X n) (h6 : O2 6 = O 6) (h5 : X2 5 = X 5) : TR B O2 X2 n := ⟨h.1, h6.trans h.2.1, h.2.2.1, by rw [h5]; exact h.2.2.2⟩
theorem RSh.x {W X X2 : WM} (h : RSh W X) (h7 : X2 7 = X 7) (h8 : X2 8 = X 8) (h9 : X2 9 = X 9) : RSh W X2 := by
  unfold RSh at h ⊢
  rw [h7, h8, h9]
  exact h
theorem RHe.x {H X X2 : WM} (h : RHe H X) (h10 : X2 10 = X 10) (h11 : X2 11 = X 11) (h12 : X2 12 = X 12) : RHe H X2 := by
  unfold RHe at h ⊢
  rw [h10, h11, h12]
  exact h
theorem DR.x {Z : WM} {O O2 : RW} {X X2 : WM} (h : DR Z O X) (hO : ∀ j, 21 ≤ j → j ≤ 25 → O2 j = O j) (h13 : X2 13 = X 13) : DR Z O2 X2 := by
  unfold DR at h ⊢
  rw [h13, hO 21 (by decide) (by decide), hO 22 (by decide) (by decide), hO 23 (by decide) (by decide), hO 24 (by decide) (by decide), hO 25 (by decide) (by decide)]
  exact h
theorem KI.up {o3 : Int32} {K : WM} {X2 : RW} {a b : Nat} (h : KI o3 K X2 a) (hab : a ≤ b) : KI o3 K X2 b := h.imp id fun q => ⟨q.1, by
  obtain ⟨nK, mK, r, hm⟩ := q.2
  exact ⟨nK, mK, r, Nat.le_trans hm hab⟩⟩
theorem RSh.cnv {S X : WM} (h : RSh S X) (v : Int32) : ∃ cn, (ix v < 4 → S (2 * ix v) 1 = nI cn) ∧ cn ≤ 40 := by
  by_cases c : ix v < 4
  · obtain ⟨-, -, cn, h1, h2, -⟩ := h (ix v) c
    exact ⟨cn, fun _ => h2, h1⟩
  · exact ⟨0, fun q => absurd q c, by decide⟩
section IV
variable {mb : Nat} {O : RW} {N K B R S H Z : WM} {OM SM : RW} {XM : WM}
theorem INV.up (i : INV mb O N K B R S H Z OM SM XM) : INV (mb + 61) O N K B R S H Z OM SM XM := by
  obtain ⟨⟨nT, mm, rp, hm⟩, i4, iK, it, ir, is, ih, id⟩ := i
  exact ⟨⟨nT, mm, rp, by omega⟩, i4, iK.up (by omega), it, ir, is, ih, id⟩
/-- after a trial -/
theorem INV.tr {S2 : RW} {X2 : WM} (i : INV mb O N K B R S H Z OM SM XM) (hX : EqX XM X2) (hS : EqS SM S2) : INV (mb + 61) O N K B R S H Z OM S2 X2 := by
  obtain ⟨⟨nT, mm, rp, hm⟩, i4, iK, ⟨bn, it⟩, ⟨cn, ir1, ir2, ir3, ir4⟩, is, ih, id⟩ := i
  refine ⟨⟨nT, mm, rp.eqS hS, by omega⟩, i4, ?_, ⟨bn, it.x rfl (hX 5 (by decide) (by decide))⟩, ⟨cn, ir1, ir2, ir3, ?_⟩, is.x (hX 7 (by decide) (by decide)) (hX 8 (by decide) (by decide)) (hX 9 (by decide) (by decide)), ih.x (hX 10 (by decide) (by decide)) (hX 11 (by decide) (by decide)) (hX 12 (by decide) (by decide)), id.x (fun _ _ _ => rfl) (hX 13 (by decide) (by decide))⟩
  · rw [hX 2 (by decide) (by decide)]
    exact iK.up (by omega)
  · rw [hX 6 (by decide) (by decide)]
    exact ir4
/-- another parish -/
theorem INV.now {N2 : WM} {S2 : RW} {nT mm : Nat} (i : INV mb O N K B R S H Z OM SM XM) (r : RP N2 S2 nT mm) (hm : mm ≤ mb + 61) : INV (mb + 61) O N2 K B R S H Z OM S2 XM := by
  obtain ⟨-, i4, iK, it, ir, is, ih, id⟩ := i
  exact ⟨⟨nT, mm, r, hm⟩, i4, iK.up (by omega), it, ir, is, ih, id⟩
theorem INV.rows {R2 : WM} {O2 OM2 : RW} {S2 : RW} {X2 : WM} {cn : Nat} (i : INV mb O N K B R S H Z OM SM XM) (h3 : O2 3 = O 3) (e6 : O2 6 = nI cn) (h10 : cn ≤ 10) (hM : ∀ j, j ≠ 13 → OM2 j = OM j) (e13 : OM2 13 = O2 6) (hX : EqX6 XM X2) (hS : EqS SM S2) (hR : RowR (X2 6) R2) : INV (mb + 61) O2 N K B R2 S H Z OM2 S2 X2 := by
  obtain ⟨⟨nT, mm, rp, hm⟩, i4, iK, ⟨bn, it⟩, ir, is, ih, id⟩ := i
  refine ⟨⟨nT, mm, rp.eqS hS, by omega⟩, ?_, ?_, ⟨bn, it.x (hM 6 (by decide)) (hX 5 (by decide) (by decide) (by decide))⟩, ⟨cn, e6, h10, e13, hR⟩, is.x (hX 7 (by decide) (by decide) (by decide)) (hX 8 (by decide) (by decide) (by decide)) (hX 9 (by decide) (by decide) (by decide)), ih.x (hX 10 (by decide) (by decide) (by decide)) (hX 11 (by decide) (by decide) (by decide)) (hX 12 (by decide) (by decide) (by decide)), id.x (fun j h1 h2 => hM j (by omega)) (hX 13 (by decide) (by decide) (by decide))⟩
  · rw [hM 4 (by decide), h3]
    exact i4
  · rw [hX 2 (by decide) (by decide) (by decide), h3]
    exact iK.up (by omega)
theorem INV.sheet {T2 X2 : WM} (i : INV mb O N K B R S H Z OM SM XM) (hX : EqX9 XM X2) (hr : RSh T2 X2) : INV (mb + 61) O N K B R T2 H Z OM SM X2 := by
  obtain ⟨⟨nT, mm, rp, hm⟩, i4, iK, ⟨bn, it⟩, ⟨cn, ir1, ir2, ir3, ir4⟩, is, ih, id⟩ := i
  refine ⟨⟨nT, mm, rp, by omega⟩, i4, ?_, ⟨bn, it.x rfl (hX 5 (by decide) (by decide) (by decide))⟩, ⟨cn, ir1, ir2, ir3, ?_⟩, hr, ih.x (hX 10 (by decide) (by decide) (by decide)) (hX 11 (by decide) (by decide) (by decide)) (hX 12 (by decide) (by decide) (by decide)), id.x (fun _ _ _ => rfl) (hX 13 (by decide) (by decide) (by decide))⟩
  · rw [hX 2 (by decide) (by decide) (by decide)]
    exact iK.up (by omega)
  · rw [hX 6 (by decide) (by decide) (by decide)]
    exact ir4
theorem INV.shelf {H2 X2 : WM} (i : INV mb O N K B R S H Z OM SM XM) (hX : EqXh XM X2) (hr : RHe H2 X2) : INV (mb + 61) O N K B R S H2 Z OM SM X2 := by
  obtain ⟨⟨nT, mm, rp, hm⟩, i4, iK, ⟨bn, it⟩, ⟨cn, ir1, ir2, ir3, ir4⟩, is, ih, id⟩ := i
  refine ⟨⟨nT, mm, rp, by omega⟩, i4, ?_, ⟨bn, it.x rfl (hX 5 (by decide) (by decide) (by decide))⟩, ⟨cn, ir1, ir2, ir3, ?_⟩, is.x (hX 7 (by decide) (by decide) (by decide)) (hX 8 (by decide) (by decide) (by decide)) (hX 9 (by decide) (by decide) (by decide)), hr, id.x (fun _ _ _ => rfl) (hX 13 (by decide) (by decide) (by decide))⟩
  · rw [hX 2 (by decide) (by decide) (by decide)]
    exact iK.up (by omega)
  · rw [hX 6 (by decide) (by decide) (by decide)]
    exact ir4
theorem INV.act {Z2 X2 : WM} {O2 : RW} (i : INV mb O N K B R S H Z OM SM XM) (hr : DR Z2 O2 X2) (hE : EqD OM XM O2 X2) : INV (mb + 61) O N K B R S H Z2 O2 SM X2 := by
  obtain ⟨⟨nT, mm, rp, hm⟩, i4, iK, ⟨bn, it⟩, ⟨cn, ir1, ir2, ir3, ir4⟩, is, ih, id⟩ := i
  have hX := hE.2
  refine ⟨⟨nT, mm, rp, by omega⟩, (hE.1 4 (by decide)).trans i4, ?_, ⟨bn, it.x (hE.1 6 (by decide)) (hX 5 (by decide))⟩, ⟨cn, ir1, ir2, (hE.1 13 (by decide)).trans ir3, ?_⟩, is.x (hX 7 (by decide)) (hX 8 (by decide)) (hX 9 (by decide)), ih.x (hX 10 (by decide)) (hX 11 (by decide)) (hX 12 (by decide)), hr⟩
  · rw [hX 2 (by decide)]
    exact iK.up (by omega)
  · rw [hX 6 (by decide)]
    exact ir4
theorem INV.feed {B2 : WM} {O2 : RW} {X2 : WM} {n2 : Nat} (i : INV mb O N K B R S H Z OM SM XM) (hO : ∀ j, j ≠ 6 → O2 j = OM j) (hX : ∀ c, c ≠ 5 → X2 c = XM c) (hr : TR B2 O2 X2 n2) : INV (mb + 61) O N K B2 R S H Z O2 SM X2 := by
  obtain ⟨⟨nT, mm, rp, hm⟩, i4, iK, it, ⟨cn, ir1, ir2, ir3, ir4⟩, is, ih, id⟩ := i
  refine ⟨⟨nT, mm, rp, by omega⟩, (hO 4 (by decide)).trans i4, ?_, ⟨n2, hr⟩, ⟨cn, ir1, ir2, (hO 13 (by decide)).trans ir3, ?_⟩, is.x (hX 7 (by decide)) (hX 8 (by decide)) (hX 9 (by decide)), ih.x (hX 10 (by decide)) (hX 11 (by decide)) (hX 12 (by decide)), id.x (fun j h1 h2 => hO j (by omega)) (hX 13 (by decide))⟩
  · rw [hX 2 (by decide)]
    exact iK.up (by omega)
  · rw [hX 6 (by decide)]
    exact ir4
theorem INV.keep {X2 : WM} (i : INV mb O N K B R S H Z OM SM XM) (hX : ∀ c, c ≠ 2 → X2 c = XM c) (h2 : ∀ k, k < 63 → X2 2 k = SM k) : INV (mb + 61) (fun j => if j = 3 then 1 else O j) N N B R S H Z (upS OM 4 1) SM X2 := by
  obtain ⟨⟨nT, mm, rp, hm⟩, i4, iK, ⟨bn, it⟩, ⟨cn, ir1, ir2, ir3, ir4⟩, is, ih, id⟩ := i
  refine ⟨⟨nT, mm, rp, by omega⟩, rfl, Or.inr ⟨rfl, nT, mm, rp.eqS h2, by omega⟩, ⟨bn, it.x rfl (hX 5 (by decide))⟩, ⟨cn, ir1, ir2, ir3, ?_⟩, is.x (hX 7 (by decide)) (hX 8 (by decide)) (hX 9 (by decide)), ih.x (hX 10 (by decide)) (hX 11 (by decide)) (hX 12 (by decide)), id.x (fun j h1 h2 => up_ne (by omega)) (hX 13 (by decide))⟩
  rw [hX 6 (by decide)]
  exact ir4
theorem INV.again {S2 : RW} (i : INV mb O N K B R S H Z OM SM XM) (h : ∀ k, k < 63 → S2 k = if OM 4 = 0 then SM k else XM 2 k) : INV (mb + 61) O (if O 3 = 0 then N else K) K B R S H Z OM S2 XM := by
  obtain ⟨⟨nT, mm, rp, hm⟩, i4, iK, it, ir, is, ih, id⟩ := i
  refine ⟨?_, i4, iK.up (by omega), it, ir, is, ih, id⟩
  rw [i4] at h
  rcases iK with q | ⟨q, nK, mK, rk, hk⟩
  · rw [if_pos q]
    exact ⟨nT, mm, rp.eqS fun k hk => (h k hk).trans (if_pos q), by omega⟩
  · have n0 : ¬ O 3 = 0 := fun z => absurd (q.symm.trans z) (by decide)
    rw [if_neg n0]
    exact ⟨nK, mK, rk.eqS fun k hk => (h k hk).trans (if_neg n0), by omega⟩
theorem INV.againR (i : INV mb O N K B R S H Z OM SM XM) : (if OM 4 = 0 then (-3 : Int32) else XM 2 0) = if O 3 = 0 then -3 else K 0 8 := by
  obtain ⟨-, i4, iK, -⟩ := i
  rw [i4]
  rcases iK with q | ⟨q, nK, mK, rk, hk⟩
  · rw [if_pos q, if_pos q]
  · have n0 : ¬ O 3 = 0 := fun z => absurd (q.symm.trans z) (by decide)
    rw [if_neg n0, if_neg n0, rk.n2, rk.n1]
theorem INV.parish {c : Prop} [Decidable c] {N2 B2 : WM} {O2 S2 : RW} {X2 : WM} {T2 m2 : Nat} (i : INV mb O N K B R S H Z OM SM XM) (hB : B2 0 1 = 0) (hX : ∀ c, c ≠ 4 → X2 c = XM c) (h6 : O2 6 = 0) (hO : ∀ j, j < 6 ∨ (11 < j ∧ j ≠ 13) → O2 j = OM j) (h13 : O2 13 = if c then 0 else OM 13) (hr : RP N2 S2 T2 m2) (hm2 : m2 ≤ mb) : INV (mb + 61) (if c then (fun j => if j = 6 then 0 else O j) else O) N2 K B2 R S H Z O2 S2 X2 := by
  obtain ⟨-, i4, iK, -, ⟨cn, ir1, ir2, ir3, ir4⟩, is, ih, id⟩ := i
  have e3 : (if c then (fun j => if j = 6 then 0 else O j) else O) 3 = O 3 := by
    split <;> rfl
  refine ⟨⟨T2, m2, hr, by omega⟩, ?_, ?_, ⟨0, hB, h6, by decide, fun k hk => absurd hk (Nat.not_lt_zero k)⟩, ?_, is.x (hX 7 (by decide)) (hX 8 (by decide)) (hX 9 (by decide)), ih.x (hX 10 (by decide)) (hX 11 (by decide)) (hX 12 (by decide)), id.x (fun j h1 h2 => hO j (by omega)) (hX 13 (by decide))⟩
  · rw [e3, hO 4 (by omega)]
    exact i4
  · rw [e3, hX 2 (by decide)]
    exact iK.up (by omega)
  · rw [hX 6 (by decide)]
    by_cases q : c
    · rw [if_pos q] at h13 ⊢
      exact ⟨0, rfl, by decide, h13, ir4⟩
    · rw [if_neg q] at h13 ⊢
      exact ⟨cn, ir1, ir2, h13.trans ir3, ir4⟩
end IV

