theorem nm_0 {b : RW} {t : Tk} : nmT b t 0 = true ↔ t.1 = 1 ∧ t.2.2 - t.2.1 = 4 ∧ b t.2.1 = 116 ∧ b (t.2.1 + 1) = 97 ∧ b (t.2.1 + 2) = 108 ∧ b (t.2.1 + 3) = 101 := by
  rw [nmT_iff]
  constructor
  · rintro ⟨h1, h2, h3⟩
    exact ⟨h1, h2, h3 0 (by decide), h3 1 (by decide), h3 2 (by decide), h3 3 (by decide)⟩
  · rintro ⟨h1, h2, g0, g1, g2, g3⟩
    refine ⟨h1, h2, fun j hj => ?_⟩
    match j, hj with
    | 0, _ => exact g0
    | 1, _ => exact g1
    | 2, _ => exact g2
    | 3, _ => exact g3
    | j + 4, hj => exact absurd (show j + 4 < 4 from hj) (by omega)
theorem nm_1 {b : RW} {t : Tk} : nmT b t 1 = true ↔ t.1 = 1 ∧ t.2.2 - t.2.1 = 4 ∧ b t.2.1 = 110 ∧ b (t.2.1 + 1) = 101 ∧ b (t.2.1 + 2) = 119 ∧ b (t.2.1 + 3) = 115 := by
  rw [nmT_iff]
  constructor
  · rintro ⟨h1, h2, h3⟩
    exact ⟨h1, h2, h3 0 (by decide), h3 1 (by decide), h3 2 (by decide), h3 3 (by decide)⟩
  · rintro ⟨h1, h2, g0, g1, g2, g3⟩
    refine ⟨h1, h2, fun j hj => ?_⟩
    match j, hj with
    | 0, _ => exact g0
    | 1, _ => exact g1
    | 2, _ => exact g2
    | 3, _ => exact g3
    | j + 4, hj => exact absurd (show j + 4 < 4 from hj) (by omega)
theorem nm_2 {b : RW} {t : Tk} : nmT b t 2 = true ↔ t.1 = 1 ∧ t.2.2 - t.2.1 = 6 ∧ b t.2.1 = 114 ∧ b (t.2.1 + 1) = 117 ∧ b (t.2.1 + 2) = 109 ∧ b (t.2.1 + 3) = 111 ∧ b (t.2.1 + 4) = 117 ∧ b (t.2.1 + 5) = 114 := by
  rw [nmT_iff]
  constructor
  · rintro ⟨h1, h2, h3⟩
    exact ⟨h1, h2, h3 0 (by decide), h3 1 (by decide), h3 2 (by decide), h3 3 (by decide), h3 4 (by decide), h3 5 (by decide)⟩
  · rintro ⟨h1, h2, g0, g1, g2, g3, g4, g5⟩
    refine ⟨h1, h2, fun j hj => ?_⟩
    match j, hj with
    | 0, _ => exact g0
    | 1, _ => exact g1
    | 2, _ => exact g2
    | 3, _ => exact g3
    | 4, _ => exact g4
    | 5, _ => exact g5
    | j + 6, hj => exact absurd (show j + 6 < 6 from hj) (by omega)
theorem nm_3 {b : RW} {t : Tk} : nmT b t 3 = true ↔ t.1 = 1 ∧ t.2.2 - t.2.1 = 7 ∧ b t.2.1 = 115 ∧ b (t.2.1 + 1) = 99 ∧ b (t.2.1 + 2) = 97 ∧ b (t.2.1 + 3) = 110 ∧ b (t.2.1 + 4) = 100 ∧ b (t.2.1 + 5) = 97 ∧ b (t.2.1 + 6) = 108 := by
  rw [nmT_iff]
  constructor
  · rintro ⟨h1, h2, h3⟩
    exact ⟨h1, h2, h3 0 (by decide), h3 1 (by decide), h3 2 (by decide), h3 3 (by decide), h3 4 (by decide), h3 5 (by decide), h3 6 (by decide)⟩
  · rintro ⟨h1, h2, g0, g1, g2, g3, g4, g5, g6⟩
    refine ⟨h1, h2, fun j hj => ?_⟩
    match j, hj with
    | 0, _ => exact g0
    | 1, _ => exact g1
    | 2, _ => exact g2
    | 3, _ => exact g3
    | 4, _ => exact g4
    | 5, _ => exact g5
    | 6, _ => exact g6
    | j + 7, hj => exact absurd (show j + 7 < 7 from hj) (by omega)
theorem nm_4 {b : RW} {t : Tk} : nmT b t 4 = true ↔ t.1 = 1 ∧ t.2.2 - t.2.1 = 7 ∧ b t.2.1 = 119 ∧ b (t.2.1 + 1) = 104 ∧ b (t.2.1 + 2) = 105 ∧ b (t.2.1 + 3) = 115 ∧ b (t.2.1 + 4) = 112 ∧ b (t.2.1 + 5) = 101 ∧ b (t.2.1 + 6) = 114 := by
  rw [nmT_iff]
  constructor
  · rintro ⟨h1, h2, h3⟩
    exact ⟨h1, h2, h3 0 (by decide), h3 1 (by decide), h3 2 (by decide), h3 3 (by decide), h3 4 (by decide), h3 5 (by decide), h3 6 (by decide)⟩
  · rintro ⟨h1, h2, g0, g1, g2, g3, g4, g5, g6⟩
    refine ⟨h1, h2, fun j hj => ?_⟩
    match j, hj with
    | 0, _ => exact g0
    | 1, _ => exact g1
    | 2, _ => exact g2
    | 3, _ => exact g3
    | 4, _ => exact g4
    | 5, _ => exact g5
    | 6, _ => exact g6
    | j + 7, hj => exact absurd (show j + 7 < 7 from hj) (by omega)
theorem nm_5 {b : RW} {t : Tk} : nmT b t 5 = true ↔ t.1 = 1 ∧ t.2.2 - t.2.1 = 5 ∧ b t.2.1 = 116 ∧ b (t.2.1 + 1) = 114 ∧ b (t.2.1 + 2) = 117 ∧ b (t.2.1 + 3) = 116 ∧ b (t.2.1 + 4) = 104 := by
  rw [nmT_iff]
  constructor
  · rintro ⟨h1, h2, h3⟩
    exact ⟨h1, h2, h3 0 (by decide), h3 1 (by decide), h3 2 (by decide), h3 3 (by decide), h3 4 (by decide)⟩
  · rintro ⟨h1, h2, g0, g1, g2, g3, g4⟩
    refine ⟨h1, h2, fun j hj => ?_⟩
    match j, hj with
    | 0, _ => exact g0
    | 1, _ => exact g1
    | 2, _ => exact g2
    | 3, _ => exact g3
    | 4, _ => exact g4
    | j + 5, hj => exact absurd (show j + 5 < 5 from hj) (by omega)
theorem nm_6 {b : RW} {t : Tk} : nmT b t 6 = true ↔ t.1 = 1 ∧ t.2.2 - t.2.1 = 3 ∧ b t.2.1 = 97 ∧ b (t.2.1 + 1) = 105 ∧ b (t.2.1 + 2) = 114 := by
  rw [nmT_iff]
  constructor
  · rintro ⟨h1, h2, h3⟩
    exact ⟨h1, h2, h3 0 (by decide), h3 1 (by decide), h3 2 (by decide)⟩
  · rintro ⟨h1, h2, g0, g1, g2⟩
    refine ⟨h1, h2, fun j hj => ?_⟩
    match j, hj with
    | 0, _ => exact g0
    | 1, _ => exact g1
    | 2, _ => exact g2
    | j + 3, hj => exact absurd (show j + 3 < 3 from hj) (by omega)
theorem nm_7 {b : RW} {t : Tk} : nmT b t 7 = true ↔ t.1 = 1 ∧ t.2.2 - t.2.1 = 5 ∧ b t.2.1 = 115 ∧ b (t.2.1 + 1) = 112 ∧ b (t.2.1 + 2) = 105 ∧ b (t.2.1 + 3) = 99 ∧ b (t.2.1 + 4) = 101 := by
  rw [nmT_iff]
  constructor
  · rintro ⟨h1, h2, h3⟩
    exact ⟨h1, h2, h3 0 (by decide), h3 1 (by decide), h3 2 (by decide), h3 3 (by decide), h3 4 (by decide)⟩
  · rintro ⟨h1, h2, g0, g1, g2, g3, g4⟩
    refine ⟨h1, h2, fun j hj => ?_⟩
    match j, hj with
    | 0, _ => exact g0
    | 1, _ => exact g1
    | 2, _ => exact g2
    | 3, _ => exact g3
    | 4, _ => exact g4
    | j + 5, hj => exact absurd (show j + 5 < 5 from hj) (by omega)
theorem nm_8 {b : RW} {t : Tk} : nmT b t 8 = true ↔ t.1 = 1 ∧ t.2.2 - t.2.1 = 5 ∧ b t.2.1 = 99 ∧ b (t.2.1 + 1) = 114 ∧ b (t.2.1 + 2) = 117 ∧ b (t.2.1 + 3) = 115 ∧ b (t.2.1 + 4) = 116 := by
  rw [nmT_iff]
  constructor
  · rintro ⟨h1, h2, h3⟩
    exact ⟨h1, h2, h3 0 (by decide), h3 1 (by decide), h3 2 (by decide), h3 3 (by decide), h3 4 (by decide)⟩
  · rintro ⟨h1, h2, g0, g1, g2, g3, g4⟩
    refine ⟨h1, h2, fun j hj => ?_⟩
    match j, hj with
    | 0, _ => exact g0
    | 1, _ => exact g1
    | 2, _ => exact g2
    | 3, _ => exact g3
    | 4, _ => exact g4
    | j + 5, hj => exact absurd (show j + 5 < 5 from hj) (by omega)
theorem nm_9 {b : RW} {t : Tk} : nmT b t 9 = true ↔ t.1 = 1 ∧ t.2.2 - t.2.1 = 7 ∧ b t.2.1 = 109 ∧ b (t.2.1 + 1) = 101 ∧ b (t.2.1 + 2) = 101 ∧ b (t.2.1 + 3) = 116 ∧ b (t.2.1 + 4) = 105 ∧ b (t.2.1 + 5) = 110 ∧ b (t.2.1 + 6) = 103 := by
  rw [nmT_iff]
  constructor
  · rintro ⟨h1, h2, h3⟩
    exact ⟨h1, h2, h3 0 (by decide), h3 1 (by decide), h3 2 (by decide), h3 3 (by decide), h3 4 (by decide), h3 5 (by decide), h3 6 (by decide)⟩
  · rintro ⟨h1, h2, g0, g1, g2, g3, g4, g5, g6⟩
    refine ⟨h1, h2, fun j hj => ?_⟩
    match j, hj with
    | 0, _ => exact g0
    | 1, _ => exact g1
    | 2, _ => exact g2
    | 3, _ => exact g3
    | 4, _ => exact g4
    | 5, _ => exact g5
    | 6, _ => exact g6
    | j + 7, hj => exact absurd (show j + 7 < 7 from hj) (by omega)
theorem nm_10 {b : RW} {t : Tk} : nmT b t 10 = true ↔ t.1 = 1 ∧ t.2.2 - t.2.1 = 6 ∧ b t.2.1 = 102 ∧ b (t.2.1 + 1) = 114 ∧ b (t.2.1 + 2) = 105 ∧ b (t.2.1 + 3) = 101 ∧ b (t.2.1 + 4) = 110 ∧ b (t.2.1 + 5) = 100 := by
  rw [nmT_iff]
  constructor
  · rintro ⟨h1, h2, h3⟩
    exact ⟨h1, h2, h3 0 (by decide), h3 1 (by decide), h3 2 (by decide), h3 3 (by decide), h3 4 (by decide), h3 5 (by decide)⟩
  · rintro ⟨h1, h2, g0, g1, g2, g3, g4, g5⟩
    refine ⟨h1, h2, fun j hj => ?_⟩
    match j, hj with
    | 0, _ => exact g0
    | 1, _ => exact g1
    | 2, _ => exact g2
    | 3, _ => exact g3
    | 4, _ => exact g4
    | 5, _ => exact g5
    | j + 6, hj => exact absurd (show j + 6 < 6 from hj) (by omega)
theorem nm_11 {b : RW} {t : Tk} : nmT b t 11 = true ↔ t.1 = 1 ∧ t.2.2 - t.2.1 = 5 ∧ b t.2.1 = 116 ∧ b (t.2.1 + 1) = 97 ∧ b (t.2.1 + 2) = 115 ∧ b (t.2.1 + 3) = 116 ∧ b (t.2.1 + 4) = 101 := by
  rw [nmT_iff]
  constructor
  · rintro ⟨h1, h2, h3⟩
    exact ⟨h1, h2, h3 0 (by decide), h3 1 (by decide), h3 2 (by decide), h3 3 (by decide), h3 4 (by decide)⟩
  · rintro ⟨h1, h2, g0, g1, g2, g3, g4⟩
    refine ⟨h1, h2, fun j hj => ?_⟩
    match j, hj with
    | 0, _ => exact g0
    | 1, _ => exact g1
    | 2, _ => exact g2
    | 3, _ => exact g3
    | 4, _ => exact g4
    | j + 5, hj => exact absurd (show j + 5 < 5 from hj) (by omega)
theorem nm_12 {b : RW} {t : Tk} : nmT b t 12 = true ↔ t.1 = 1 ∧ t.2.2 - t.2.1 = 3 ∧ b t.2.1 = 98 ∧ b (t.2.1 + 1) = 111 ∧ b (t.2.1 + 2) = 120 := by
  rw [nmT_iff]
  constructor
  · rintro ⟨h1, h2, h3⟩
    exact ⟨h1, h2, h3 0 (by decide), h3 1 (by decide), h3 2 (by decide)⟩
  · rintro ⟨h1, h2, g0, g1, g2⟩
    refine ⟨h1, h2, fun j hj => ?_⟩
    match j, hj with
    | 0, _ => exact g0
    | 1, _ => exact g1
    | 2, _ => exact g2
    | j + 3, hj => exact absurd (show j + 3 < 3 from hj) (by omega)
theorem nm_13 {b : RW} {t : Tk} : nmT b t 13 = true ↔ t.1 = 1 ∧ t.2.2 - t.2.1 = 2 ∧ b t.2.1 = 97 ∧ b (t.2.1 + 1) = 116 := by
  rw [nmT_iff]
  constructor
  · rintro ⟨h1, h2, h3⟩
    exact ⟨h1, h2, h3 0 (by decide), h3 1 (by decide)⟩
  · rintro ⟨h1, h2, g0, g1⟩
    refine ⟨h1, h2, fun j hj => ?_⟩
    match j, hj with
    | 0, _ => exact g0
    | 1, _ => exact g1
    | j + 2, hj => exact absurd (show j + 2 < 2 from hj) (by omega)
theorem nm_14 {b : RW} {t : Tk} : nmT b t 14 = true ↔ t.1 = 1 ∧ t.2.2 - t.2.1 = 4 ∧ b t.2.1 = 104 ∧ b (t.2.1 + 1) = 101 ∧ b (t.2.1 + 2) = 97 ∧ b (t.2.1 + 3) = 116 := by
  rw [nmT_iff]
  constructor
  · rintro ⟨h1, h2, h3⟩
    exact ⟨h1, h2, h3 0 (by decide), h3 1 (by decide), h3 2 (by decide), h3 3 (by decide)⟩
  · rintro ⟨h1, h2, g0, g1, g2, g3⟩
    refine ⟨h1, h2, fun j hj => ?_⟩
    match j, hj with
    | 0, _ => exact g0
    | 1, _ => exact g1
    | 2, _ => exact g2
    | 3, _ => exact g3
    | j + 4, hj => exact absurd (show j + 4 < 4 from hj) (by omega)
theorem nm_15 {b : RW} {t : Tk} : nmT b t 15 = true ↔ t.1 = 1 ∧ t.2.2 - t.2.1 = 2 ∧ b t.2.1 = 105 ∧ b (t.2.1 + 1) = 115 := by
  rw [nmT_iff]
  constructor
  · rintro ⟨h1, h2, h3⟩
    exact ⟨h1, h2, h3 0 (by decide), h3 1 (by decide)⟩
  · rintro ⟨h1, h2, g0, g1⟩
    refine ⟨h1, h2, fun j hj => ?_⟩
    match j, hj with
    | 0, _ => exact g0
    | 1, _ => exact g1
    | j + 2, hj => exact absurd (show j + 2 < 2 from hj) (by omega)


theorem bI_c {p q : Prop} [Decidable p] [Decidable q] (h : p ↔ q) : bI p = bI q := by
  by_cases c : p
  · rw [bI_t c, bI_t (h.mp c)]
  · rw [bI_f c, bI_f fun z => c (h.mpr z)]
/-- a character -/
def Ch (c : Int32) : Prop := 0 ≤ c ∧ c ≤ 127
theorem ch_ {c : Int32} (h : decide (0 ≤ c ∧ c ≤ 127) = true) : Ch c := @of_decide_eq_true (0 ≤ c ∧ c ≤ 127) _ h
/-- what the token is: facts of a right state -/
theorem MTK.le {O : RW} {b : RW} {n : Nat} {t : Tk} (h : MTK O b n t) : t.1 ≤ 3 ∧ t.2.1 ≤ n ∧ t.2.1 ≤ t.2.2 ∧ t.2.2 ≤ n ∧ (t.1 = 3 → t.2.1 < n) ∧ (t.1 = 0 → n ≤ t.2.1) ∧ (t.1 ≠ 0 → t.2.1 < t.2.2) := by
  obtain ⟨-, -, -, -, e0, he, rfl⟩ := h
  have q := tk_le (b := b) he
  exact ⟨q.1, q.2.2.1, q.2.2.2.1, q.2.2.2.2.1, q.2.2.2.2.2.1, q.2.2.2.2.2.2.1, q.2.2.2.2.2.2.2⟩
theorem ln_ {O : RW} {s e L : Nat} (h8 : O 8 = nI s) (h9 : O 9 = nI e) (hse : s ≤ e) (he : e ≤ 200) (hL : L ≤ 200) : O 9 - O 8 = nI L ↔ e - s = L := by
  rw [h8, h9, pk_sub hse]
  exact nI_eq (by omega) (by omega)
theorem by_ {b Y : RW} {n i : Nat} (h : BR b Y n) (hi : i < n) {c : Int32} (hc : Ch c) : byM Y n i = c ↔ b i = c := by
  rw [h.eq hc.1 hc.2]
  exact ⟨fun q => q.2, fun q => ⟨hi, q⟩⟩

set_option maxRecDepth 100000 in
set_option maxHeartbeats 4000000 in
theorem c_X6_isName (l : Launch) (G : GE) {ad : Nat → Nat} {M : WM} {O S : RW} {X : WM} {b : RW} {n : Nat} {t : Tk} (h0 : BT O X b n) (hk : MTK O b n t) {v a1 a2 a3 a4 : Int32} {L : Nat} (hv : v = nI L) (hL : 3 ≤ L ∧ L ≤ 7) (c1 : Ch a1) (c2 : Ch a2) (c3 : Ch a3) (c4 : Ch a4) (hM : M = mkM O S X)  : CT l G yX6_isName cX6_isName 6 (some .boolean) 1 [.ref (ad 0), .int v, .int a1, .int a2, .int a3, .int a4] 14 ad (shM G ad) M (PI (fun r u => r = bI (t.1 = 1 ∧ t.2.2 - t.2.1 = L ∧ b t.2.1 = a1 ∧ b (t.2.1 + 1) = a2 ∧ b (t.2.1 + 2) = a3 ∧ b (t.2.1 + L - 1) = a4) ∧ u = mkM O S X)) := by
  refine CT.of (own := RX6) rfl rfl (le_b rfl) fun p e s m args below meth c A C0 hr => ?_
  refine AW.lo (ls2 := [(0, _), (1, _), (2, _), (3, _), (4, _), (5, _)]) rfl ?_
  subst hM
  obtain ⟨h6, hn2, hb⟩ := id h0
  obtain ⟨k7, k8, k9, k10, -⟩ := id hk
  obtain ⟨g3, gs, gse, gen, gs3, g0, gne⟩ := hk.le
  have k71 : O 7 = 1 ↔ t.1 = 1 := by
    rw [k7]
    exact nI_eq (b := 1) (by omega) (by decide)
  refine a_aload_n C0 0 dX6_isName_0 rfl rfl ?_
  refine g_X6_81 C0 (lt_b rfl) rfl rfl dX6_isName_1 ?_
  refine a_iconst C0 1 dX6_isName_4 rfl ?_
  refine a_icmp_ne C0 81 dX6_isName_5 rfl (fun h5 => ?_) (fun h5 => ?_)
  · refine a_iconst C0 0 dX6_isName_81 rfl ?_
    refine a_zret C0 hr rfl dX6_isName_82 ?_
    refine rt_ ?_
    first
      | exact (bI_t ⟨hkk, hln, (by_ hb (by omega) c1).mp h30, (by_ hb (by omega) c2).mp h44, (by_ hb (by omega) c3).mp h59, (by_ hb (by omega) c4).mp h74⟩).symm
      | exact (bI_f fun q => h74 ((by_ hb (by omega) c4).mpr q.2.2.2.2.2)).symm
      | exact (bI_f fun q => h59 ((by_ hb (by omega) c3).mpr q.2.2.2.2.1)).symm
      | exact (bI_f fun q => h44 ((by_ hb (by omega) c2).mpr q.2.2.2.1)).symm
      | exact (bI_f fun q => h30 ((by_ hb (by omega) c1).mpr q.2.2.1)).symm
      | exact (bI_f fun q => h18 (by rw [hv]; exact (ln_ k8 k9 gse (by omega) (by omega)).mpr q.2.1)).symm
      | exact (bI_f fun q => h5 (k71.mpr q.1)).symm
  · refine a_aload_n C0 0 dX6_isName_8 rfl rfl ?_
    refine g_X6_64 C0 (lt_b rfl) rfl rfl dX6_isName_9 ?_
    refine a_aload_n C0 0 dX6_isName_12 rfl rfl ?_
    refine g_X6_67 C0 (lt_b rfl) rfl rfl dX6_isName_13 ?_
    refine a_isub C0 dX6_isName_16 ?_
    refine a_iload_n C0 1 dX6_isName_17 rfl rfl ?_
    refine a_icmp_ne C0 81 dX6_isName_18 rfl (fun h18 => ?_) (fun h18 => ?_)
    · refine a_iconst C0 0 dX6_isName_81 rfl ?_
      refine a_zret C0 hr rfl dX6_isName_82 ?_
      refine rt_ ?_
      first
        | exact (bI_t ⟨hkk, hln, (by_ hb (by omega) c1).mp h30, (by_ hb (by omega) c2).mp h44, (by_ hb (by omega) c3).mp h59, (by_ hb (by omega) c4).mp h74⟩).symm
        | exact (bI_f fun q => h74 ((by_ hb (by omega) c4).mpr q.2.2.2.2.2)).symm
        | exact (bI_f fun q => h59 ((by_ hb (by omega) c3).mpr q.2.2.2.2.1)).symm
        | exact (bI_f fun q => h44 ((by_ hb (by omega) c2).mpr q.2.2.2.1)).symm
        | exact (bI_f fun q => h30 ((by_ hb (by omega) c1).mpr q.2.2.1)).symm
        | exact (bI_f fun q => h18 (by rw [hv]; exact (ln_ k8 k9 gse (by omega) (by omega)).mpr q.2.1)).symm
        | exact (bI_f fun q => h5 (k71.mpr q.1)).symm
    · have hkk : t.1 = 1 := k71.mp h5
      have hln : t.2.2 - t.2.1 = L := by
        rw [hv] at h18
        exact (ln_ k8 k9 gse (by omega) (by omega)).mp h18
      refine a_aload_n C0 0 dX6_isName_21 rfl rfl ?_
      refine a_aload_n C0 0 dX6_isName_22 rfl rfl ?_
      refine g_X6_67 C0 (lt_b rfl) rfl rfl dX6_isName_23 ?_
      refine a_callV _ 1 C0 EM.refl (c_X6_byteAt l G h6 hn2 k8 (by omega) rfl) u_c_X6_byteAt u_m_X6_70 u_im_X6_byteAt u_se_X6_byteAt u_in_X6 hy_X6_byteAt rfl (lt_b rfl) rfl (hRk rfl) rfl rfl (le_b rfl) dX6_isName_26 (k_ro EM.refl ?_)
      refine a_iload_n C0 2 dX6_isName_29 rfl rfl ?_
      refine a_icmp_ne C0 81 dX6_isName_30 rfl (fun h30 => ?_) (fun h30 => ?_)
      · refine a_iconst C0 0 dX6_isName_81 rfl ?_
        refine a_zret C0 hr rfl dX6_isName_82 ?_
        refine rt_ ?_
        first
          | exact (bI_t ⟨hkk, hln, (by_ hb (by omega) c1).mp h30, (by_ hb (by omega) c2).mp h44, (by_ hb (by omega) c3).mp h59, (by_ hb (by omega) c4).mp h74⟩).symm
          | exact (bI_f fun q => h74 ((by_ hb (by omega) c4).mpr q.2.2.2.2.2)).symm
          | exact (bI_f fun q => h59 ((by_ hb (by omega) c3).mpr q.2.2.2.2.1)).symm
          | exact (bI_f fun q => h44 ((by_ hb (by omega) c2).mpr q.2.2.2.1)).symm
          | exact (bI_f fun q => h30 ((by_ hb (by omega) c1).mpr q.2.2.1)).symm
          | exact (bI_f fun q => h18 (by rw [hv]; exact (ln_ k8 k9 gse (by omega) (by omega)).mpr q.2.1)).symm
          | exact (bI_f fun q => h5 (k71.mpr q.1)).symm
      · refine a_aload_n C0 0 dX6_isName_33 rfl rfl ?_
        refine a_aload_n C0 0 dX6_isName_34 rfl rfl ?_
        refine g_X6_67 C0 (lt_b rfl) rfl rfl dX6_isName_35 ?_
        refine a_iconst C0 1 dX6_isName_38 rfl ?_
        refine a_iadd C0 dX6_isName_39 ?_
        refine a_callV _ 1 C0 EM.refl (c_X6_byteAt l G (i := t.2.1 + 1) h6 hn2 (show O 8 + 1 = _ by rw [k8, nI_1]) (by omega) rfl) u_c_X6_byteAt u_m_X6_70 u_im_X6_byteAt u_se_X6_byteAt u_in_X6 hy_X6_byteAt rfl (lt_b rfl) rfl (hRk rfl) rfl rfl (le_b rfl) dX6_isName_40 (k_ro EM.refl ?_)
        refine a_iload_n C0 3 dX6_isName_43 rfl rfl ?_
        refine a_icmp_ne C0 81 dX6_isName_44 rfl (fun h44 => ?_) (fun h44 => ?_)
        · refine a_iconst C0 0 dX6_isName_81 rfl ?_
          refine a_zret C0 hr rfl dX6_isName_82 ?_
          refine rt_ ?_
          first
            | exact (bI_t ⟨hkk, hln, (by_ hb (by omega) c1).mp h30, (by_ hb (by omega) c2).mp h44, (by_ hb (by omega) c3).mp h59, (by_ hb (by omega) c4).mp h74⟩).symm
            | exact (bI_f fun q => h74 ((by_ hb (by omega) c4).mpr q.2.2.2.2.2)).symm
            | exact (bI_f fun q => h59 ((by_ hb (by omega) c3).mpr q.2.2.2.2.1)).symm
            | exact (bI_f fun q => h44 ((by_ hb (by omega) c2).mpr q.2.2.2.1)).symm
            | exact (bI_f fun q => h30 ((by_ hb (by omega) c1).mpr q.2.2.1)).symm
            | exact (bI_f fun q => h18 (by rw [hv]; exact (ln_ k8 k9 gse (by omega) (by omega)).mpr q.2.1)).symm
            | exact (bI_f fun q => h5 (k71.mpr q.1)).symm
        · refine a_aload_n C0 0 dX6_isName_47 rfl rfl ?_
          refine a_aload_n C0 0 dX6_isName_48 rfl rfl ?_
          refine g_X6_67 C0 (lt_b rfl) rfl rfl dX6_isName_49 ?_
          refine a_iconst C0 2 dX6_isName_52 rfl ?_
          refine a_iadd C0 dX6_isName_53 ?_
          refine a_callV _ 1 C0 EM.refl (c_X6_byteAt l G (i := t.2.1 + 2) h6 hn2 (show O 8 + 2 = _ by rw [k8, show (2 : Int32) = nI 2 from rfl, nI_add]) (by omega) rfl) u_c_X6_byteAt u_m_X6_70 u_im_X6_byteAt u_se_X6_byteAt u_in_X6 hy_X6_byteAt rfl (lt_b rfl) rfl (hRk rfl) rfl rfl (le_b rfl) dX6_isName_54 (k_ro EM.refl ?_)
          refine a_iload C0 4 dX6_isName_57 rfl ?_
          refine a_icmp_ne C0 81 dX6_isName_59 rfl (fun h59 => ?_) (fun h59 => ?_)
          · refine a_iconst C0 0 dX6_isName_81 rfl ?_
            refine a_zret C0 hr rfl dX6_isName_82 ?_
            refine rt_ ?_
            first
              | exact (bI_t ⟨hkk, hln, (by_ hb (by omega) c1).mp h30, (by_ hb (by omega) c2).mp h44, (by_ hb (by omega) c3).mp h59, (by_ hb (by omega) c4).mp h74⟩).symm
              | exact (bI_f fun q => h74 ((by_ hb (by omega) c4).mpr q.2.2.2.2.2)).symm
              | exact (bI_f fun q => h59 ((by_ hb (by omega) c3).mpr q.2.2.2.2.1)).symm
              | exact (bI_f fun q => h44 ((by_ hb (by omega) c2).mpr q.2.2.2.1)).symm
              | exact (bI_f fun q => h30 ((by_ hb (by omega) c1).mpr q.2.2.1)).symm
              | exact (bI_f fun q => h18 (by rw [hv]; exact (ln_ k8 k9 gse (by omega) (by omega)).mpr q.2.1)).symm
              | exact (bI_f fun q => h5 (k71.mpr q.1)).symm
          · refine a_aload_n C0 0 dX6_isName_62 rfl rfl ?_
            refine a_aload_n C0 0 dX6_isName_63 rfl rfl ?_
            refine g_X6_64 C0 (lt_b rfl) rfl rfl dX6_isName_64 ?_
            refine a_iconst C0 1 dX6_isName_67 rfl ?_
            refine a_isub C0 dX6_isName_68 ?_
            refine a_callV _ 1 C0 EM.refl (c_X6_byteAt l G (i := t.2.1 + L - 1) h6 hn2 (show O 9 - 1 = _ by rw [k9, show (1 : Int32) = nI 1 from rfl, pk_sub (by omega), show t.2.2 - 1 = t.2.1 + L - 1 by omega]) (by omega) rfl) u_c_X6_byteAt u_m_X6_70 u_im_X6_byteAt u_se_X6_byteAt u_in_X6 hy_X6_byteAt rfl (lt_b rfl) rfl (hRk rfl) rfl rfl (le_b rfl) dX6_isName_69 (k_ro EM.refl ?_)
            refine a_iload C0 5 dX6_isName_72 rfl ?_
            refine a_icmp_ne C0 81 dX6_isName_74 rfl (fun h74 => ?_) (fun h74 => ?_)
            · refine a_iconst C0 0 dX6_isName_81 rfl ?_
              refine a_zret C0 hr rfl dX6_isName_82 ?_
              refine rt_ ?_
              first
                | exact (bI_t ⟨hkk, hln, (by_ hb (by omega) c1).mp h30, (by_ hb (by omega) c2).mp h44, (by_ hb (by omega) c3).mp h59, (by_ hb (by omega) c4).mp h74⟩).symm
                | exact (bI_f fun q => h74 ((by_ hb (by omega) c4).mpr q.2.2.2.2.2)).symm
                | exact (bI_f fun q => h59 ((by_ hb (by omega) c3).mpr q.2.2.2.2.1)).symm
                | exact (bI_f fun q => h44 ((by_ hb (by omega) c2).mpr q.2.2.2.1)).symm
                | exact (bI_f fun q => h30 ((by_ hb (by omega) c1).mpr q.2.2.1)).symm
                | exact (bI_f fun q => h18 (by rw [hv]; exact (ln_ k8 k9 gse (by omega) (by omega)).mpr q.2.1)).symm
                | exact (bI_f fun q => h5 (k71.mpr q.1)).symm
            · refine a_iconst C0 1 dX6_isName_77 rfl ?_
              refine a_goto C0 82 dX6_isName_78 rfl ?_
              refine a_zret C0 hr rfl dX6_isName_82 ?_
              refine rt_ ?_
              first
                | exact (bI_t ⟨hkk, hln, (by_ hb (by omega) c1).mp h30, (by_ hb (by omega) c2).mp h44, (by_ hb (by omega) c3).mp h59, (by_ hb (by omega) c4).mp h74⟩).symm
                | exact (bI_f fun q => h74 ((by_ hb (by omega) c4).mpr q.2.2.2.2.2)).symm
                | exact (bI_f fun q => h59 ((by_ hb (by omega) c3).mpr q.2.2.2.2.1)).symm
                | exact (bI_f fun q => h44 ((by_ hb (by omega) c2).mpr q.2.2.2.1)).symm
                | exact (bI_f fun q => h30 ((by_ hb (by omega) c1).mpr q.2.2.1)).symm
                | exact (bI_f fun q => h18 (by rw [hv]; exact (ln_ k8 k9 gse (by omega) (by omega)).mpr q.2.1)).symm
                | exact (bI_f fun q => h5 (k71.mpr q.1)).symm
set_option maxRecDepth 100000 in
set_option maxHeartbeats 4000000 in
theorem c_X6_isSame (l : Launch) (G : GE) {ad : Nat → Nat} {M : WM} {O S : RW} {X : WM} {b : RW} {n : Nat} {t : Tk} (h0 : BT O X b n) (hk : MTK O b n t) {v a1 a2 a3 : Int32} {j : Nat} (hv : v = nI j) (hj : t.2.1 + j + 2 < n) (c1 : Ch a1) (c2 : Ch a2) (c3 : Ch a3) (hM : M = mkM O S X)  : CT l G yX6_isSame cX6_isSame 5 (some .boolean) 1 [.ref (ad 0), .int v, .int a1, .int a2, .int a3] 14 ad (shM G ad) M (PI (fun r u => r = bI (b (t.2.1 + j) = a1 ∧ b (t.2.1 + j + 1) = a2 ∧ b (t.2.1 + j + 2) = a3) ∧ u = mkM O S X)) := by
  refine CT.of (own := RX6) rfl rfl (le_b rfl) fun p e s m args below meth c A C0 hr => ?_
  refine AW.lo (ls2 := [(0, _), (1, _), (2, _), (3, _), (4, _)]) rfl ?_
  subst hM
  obtain ⟨h6, hn2, hb⟩ := id h0
  obtain ⟨k7, k8, k9, k10, -⟩ := id hk
  obtain ⟨g3, gs, gse, gen, gs3, g0, gne⟩ := hk.le
  have k71 : O 7 = 1 ↔ t.1 = 1 := by
    rw [k7]
    exact nI_eq (b := 1) (by omega) (by decide)
  have e8 : O 8 + v = nI (t.2.1 + j) := by rw [k8, hv, nI_add]
  refine a_aload_n C0 0 dX6_isSame_0 rfl rfl ?_
  refine a_aload_n C0 0 dX6_isSame_1 rfl rfl ?_
  refine g_X6_67 C0 (lt_b rfl) rfl rfl dX6_isSame_2 ?_
  refine a_iload_n C0 1 dX6_isSame_5 rfl rfl ?_
  refine a_iadd C0 dX6_isSame_6 ?_
  refine a_callV _ 1 C0 EM.refl (c_X6_byteAt l G h6 hn2 e8 (by omega) rfl) u_c_X6_byteAt u_m_X6_70 u_im_X6_byteAt u_se_X6_byteAt u_in_X6 hy_X6_byteAt rfl (lt_b rfl) rfl (hRk rfl) rfl rfl (le_b rfl) dX6_isSame_7 (k_ro EM.refl ?_)
  refine a_iload_n C0 2 dX6_isSame_10 rfl rfl ?_
  refine a_icmp_ne C0 51 dX6_isSame_11 rfl (fun h11 => ?_) (fun h11 => ?_)
  · refine a_iconst C0 0 dX6_isSame_51 rfl ?_
    refine a_zret C0 hr rfl dX6_isSame_52 ?_
    refine rt_ ?_
    first
      | exact (bI_t ⟨(by_ hb (by omega) c1).mp h11, (by_ hb (by omega) c2).mp h27, (by_ hb (by omega) c3).mp h44⟩).symm
      | exact (bI_f fun q => h44 ((by_ hb (by omega) c3).mpr q.2.2)).symm
      | exact (bI_f fun q => h27 ((by_ hb (by omega) c2).mpr q.2.1)).symm
      | exact (bI_f fun q => h11 ((by_ hb (by omega) c1).mpr q.1)).symm
  · refine a_aload_n C0 0 dX6_isSame_14 rfl rfl ?_
    refine a_aload_n C0 0 dX6_isSame_15 rfl rfl ?_
    refine g_X6_67 C0 (lt_b rfl) rfl rfl dX6_isSame_16 ?_
    refine a_iload_n C0 1 dX6_isSame_19 rfl rfl ?_
    refine a_iadd C0 dX6_isSame_20 ?_
    refine a_iconst C0 1 dX6_isSame_21 rfl ?_
    refine a_iadd C0 dX6_isSame_22 ?_
    refine a_callV _ 1 C0 EM.refl (c_X6_byteAt l G (i := t.2.1 + j + 1) h6 hn2 (show O 8 + v + 1 = _ by rw [e8, nI_1]) (by omega) rfl) u_c_X6_byteAt u_m_X6_70 u_im_X6_byteAt u_se_X6_byteAt u_in_X6 hy_X6_byteAt rfl (lt_b rfl) rfl (hRk rfl) rfl rfl (le_b rfl) dX6_isSame_23 (k_ro EM.refl ?_)
    refine a_iload_n C0 3 dX6_isSame_26 rfl rfl ?_
    refine a_icmp_ne C0 51 dX6_isSame_27 rfl (fun h27 => ?_) (fun h27 => ?_)
    · refine a_iconst C0 0 dX6_isSame_51 rfl ?_
      refine a_zret C0 hr rfl dX6_isSame_52 ?_
      refine rt_ ?_
      first
        | exact (bI_t ⟨(by_ hb (by omega) c1).mp h11, (by_ hb (by omega) c2).mp h27, (by_ hb (by omega) c3).mp h44⟩).symm
        | exact (bI_f fun q => h44 ((by_ hb (by omega) c3).mpr q.2.2)).symm
        | exact (bI_f fun q => h27 ((by_ hb (by omega) c2).mpr q.2.1)).symm
        | exact (bI_f fun q => h11 ((by_ hb (by omega) c1).mpr q.1)).symm
    · refine a_aload_n C0 0 dX6_isSame_30 rfl rfl ?_
      refine a_aload_n C0 0 dX6_isSame_31 rfl rfl ?_
      refine g_X6_67 C0 (lt_b rfl) rfl rfl dX6_isSame_32 ?_
      refine a_iload_n C0 1 dX6_isSame_35 rfl rfl ?_
      refine a_iadd C0 dX6_isSame_36 ?_
      refine a_iconst C0 2 dX6_isSame_37 rfl ?_
      refine a_iadd C0 dX6_isSame_38 ?_
      refine a_callV _ 1 C0 EM.refl (c_X6_byteAt l G (i := t.2.1 + j + 2) h6 hn2 (show O 8 + v + 2 = _ by rw [e8, show (2 : Int32) = nI 2 from rfl, nI_add]) (by omega) rfl) u_c_X6_byteAt u_m_X6_70 u_im_X6_byteAt u_se_X6_byteAt u_in_X6 hy_X6_byteAt rfl (lt_b rfl) rfl (hRk rfl) rfl rfl (le_b rfl) dX6_isSame_39 (k_ro EM.refl ?_)
      refine a_iload C0 4 dX6_isSame_42 rfl ?_
      refine a_icmp_ne C0 51 dX6_isSame_44 rfl (fun h44 => ?_) (fun h44 => ?_)
      · refine a_iconst C0 0 dX6_isSame_51 rfl ?_
        refine a_zret C0 hr rfl dX6_isSame_52 ?_
        refine rt_ ?_
        first
          | exact (bI_t ⟨(by_ hb (by omega) c1).mp h11, (by_ hb (by omega) c2).mp h27, (by_ hb (by omega) c3).mp h44⟩).symm
          | exact (bI_f fun q => h44 ((by_ hb (by omega) c3).mpr q.2.2)).symm
          | exact (bI_f fun q => h27 ((by_ hb (by omega) c2).mpr q.2.1)).symm
          | exact (bI_f fun q => h11 ((by_ hb (by omega) c1).mpr q.1)).symm
      · refine a_iconst C0 1 dX6_isSame_47 rfl ?_
        refine a_goto C0 52 dX6_isSame_48 rfl ?_
        refine a_zret C0 hr rfl dX6_isSame_52 ?_
        refine rt_ ?_
        first
          | exact (bI_t ⟨(by_ hb (by omega) c1).mp h11, (by_ hb (by omega) c2).mp h27, (by_ hb (by omega) c3).mp h44⟩).symm
          | exact (bI_f fun q => h44 ((by_ hb (by omega) c3).mpr q.2.2)).symm
          | exact (bI_f fun q => h27 ((by_ hb (by omega) c2).mpr q.2.1)).symm
          | exact (bI_f fun q => h11 ((by_ hb (by omega) c1).mpr q.1)).symm
set_option maxRecDepth 100000 in
set_option maxHeartbeats 4000000 in
theorem c_X6_isFour (l : Launch) (G : GE) {ad : Nat → Nat} {M : WM} {O S : RW} {X : WM} {b : RW} {n : Nat} {t : Tk} (h0 : BT O X b n) (hk : MTK O b n t) {a1 a2 a3 a4 : Int32} (c1 : Ch a1) (c2 : Ch a2) (c3 : Ch a3) (c4 : Ch a4) (hM : M = mkM O S X)  : CT l G yX6_isFour cX6_isFour 5 (some .boolean) 2 [.ref (ad 0), .int a1, .int a2, .int a3, .int a4] 14 ad (shM G ad) M (PI (fun r u => r = bI (t.1 = 1 ∧ t.2.2 - t.2.1 = 4 ∧ b t.2.1 = a1 ∧ b (t.2.1 + 1) = a2 ∧ b (t.2.1 + 2) = a3 ∧ b (t.2.1 + 3) = a4) ∧ u = mkM O S X)) := by
  refine CT.of (own := RX6) rfl rfl (le_b rfl) fun p e s m args below meth c A C0 hr => ?_
  refine AW.lo (ls2 := [(0, _), (1, _), (2, _), (3, _), (4, _)]) rfl ?_
  subst hM
  refine a_aload_n C0 0 dX6_isFour_0 rfl rfl ?_
  refine a_iconst C0 4 dX6_isFour_1 rfl ?_
  refine a_iload_n C0 1 dX6_isFour_2 rfl rfl ?_
  refine a_iload_n C0 2 dX6_isFour_3 rfl rfl ?_
  refine a_iload_n C0 3 dX6_isFour_4 rfl rfl ?_
  refine a_iload C0 4 dX6_isFour_5 rfl ?_
  refine a_callV _ 5 C0 EM.refl (c_X6_isName l G (L := 4) h0 hk rfl (by decide) c1 c2 c3 c4 rfl) u_c_X6_isName u_m_X6_94 u_im_X6_isName u_se_X6_isName u_in_X6 hy_X6_isName rfl (lt_b rfl) rfl (hRk rfl) rfl rfl (le_b rfl) dX6_isFour_7 (k_ro EM.refl ?_)
  refine a_zret C0 hr (bI_nar _) dX6_isFour_10 ?_
  exact rt_ rfl
set_option maxRecDepth 100000 in
set_option maxHeartbeats 4000000 in
theorem c_X6_isFive (l : Launch) (G : GE) {ad : Nat → Nat} {M : WM} {O S : RW} {X : WM} {b : RW} {n : Nat} {t : Tk} (h0 : BT O X b n) (hk : MTK O b n t) {a1 a2 a3 a4 a5 : Int32} (c1 : Ch a1) (c2 : Ch a2) (c3 : Ch a3) (c4 : Ch a4) (c5 : Ch a5) (hM : M = mkM O S X)  : CT l G yX6_isFive cX6_isFive 6 (some .boolean) 2 [.ref (ad 0), .int a1, .int a2, .int a3, .int a4, .int a5] 14 ad (shM G ad) M (PI (fun r u => r = bI (t.1 = 1 ∧ t.2.2 - t.2.1 = 5 ∧ b t.2.1 = a1 ∧ b (t.2.1 + 1) = a2 ∧ b (t.2.1 + 2) = a3 ∧ b (t.2.1 + 3) = a4 ∧ b (t.2.1 + 4) = a5) ∧ u = mkM O S X)) := by
  refine CT.of (own := RX6) rfl rfl (le_b rfl) fun p e s m args below meth c A C0 hr => ?_
  refine AW.lo (ls2 := [(0, _), (1, _), (2, _), (3, _), (4, _), (5, _)]) rfl ?_
  subst hM
  obtain ⟨h6, hn2, hb⟩ := id h0
  obtain ⟨k7, k8, k9, k10, -⟩ := id hk
  obtain ⟨g3, gs, gse, gen, gs3, g0, gne⟩ := hk.le
  have k71 : O 7 = 1 ↔ t.1 = 1 := by
    rw [k7]
    exact nI_eq (b := 1) (by omega) (by decide)
  refine a_aload_n C0 0 dX6_isFive_0 rfl rfl ?_
  refine a_iconst C0 5 dX6_isFive_1 rfl ?_
  refine a_iload_n C0 1 dX6_isFive_2 rfl rfl ?_
  refine a_iload_n C0 2 dX6_isFive_3 rfl rfl ?_
  refine a_iload_n C0 3 dX6_isFive_4 rfl rfl ?_
  refine a_iload C0 5 dX6_isFive_5 rfl ?_
  refine a_callV _ 5 C0 EM.refl (c_X6_isName l G (L := 5) h0 hk rfl (by decide) c1 c2 c3 c5 rfl) u_c_X6_isName u_m_X6_94 u_im_X6_isName u_se_X6_isName u_in_X6 hy_X6_isName rfl (lt_b rfl) rfl (hRk rfl) rfl rfl (le_b rfl) dX6_isFive_7 (k_ro EM.refl ?_)
  refine a_if_eqb C0 32 dX6_isFive_10 rfl (fun h10 => ?_) (fun h10 => ?_)
  · refine a_iconst C0 0 dX6_isFive_32 rfl ?_
    refine a_zret C0 hr rfl dX6_isFive_33 ?_
    refine rt_ ?_
    first
      | exact (bI_t ⟨h10.1, h10.2.1, h10.2.2.1, h10.2.2.2.1, h10.2.2.2.2.1, (by_ hb (by omega) c4).mp h25, h10.2.2.2.2.2⟩).symm
      | exact (bI_f fun q => h25 ((by_ hb (by omega) c4).mpr q.2.2.2.2.2.1)).symm
      | exact (bI_f fun q => h10 ⟨q.1, q.2.1, q.2.2.1, q.2.2.2.1, q.2.2.2.2.1, q.2.2.2.2.2.2⟩).symm
  · have hln : t.2.2 - t.2.1 = 5 := h10.2.1
    refine a_aload_n C0 0 dX6_isFive_13 rfl rfl ?_
    refine a_aload_n C0 0 dX6_isFive_14 rfl rfl ?_
    refine g_X6_67 C0 (lt_b rfl) rfl rfl dX6_isFive_15 ?_
    refine a_iconst C0 3 dX6_isFive_18 rfl ?_
    refine a_iadd C0 dX6_isFive_19 ?_
    refine a_callV _ 1 C0 EM.refl (c_X6_byteAt l G (i := t.2.1 + 3) h6 hn2 (show O 8 + 3 = _ by rw [k8, show (3 : Int32) = nI 3 from rfl, nI_add]) (by omega) rfl) u_c_X6_byteAt u_m_X6_70 u_im_X6_byteAt u_se_X6_byteAt u_in_X6 hy_X6_byteAt rfl (lt_b rfl) rfl (hRk rfl) rfl rfl (le_b rfl) dX6_isFive_20 (k_ro EM.refl ?_)
    refine a_iload C0 4 dX6_isFive_23 rfl ?_
    refine a_icmp_ne C0 32 dX6_isFive_25 rfl (fun h25 => ?_) (fun h25 => ?_)
    · refine a_iconst C0 0 dX6_isFive_32 rfl ?_
      refine a_zret C0 hr rfl dX6_isFive_33 ?_
      refine rt_ ?_
      first
        | exact (bI_t ⟨h10.1, h10.2.1, h10.2.2.1, h10.2.2.2.1, h10.2.2.2.2.1, (by_ hb (by omega) c4).mp h25, h10.2.2.2.2.2⟩).symm
        | exact (bI_f fun q => h25 ((by_ hb (by omega) c4).mpr q.2.2.2.2.2.1)).symm
        | exact (bI_f fun q => h10 ⟨q.1, q.2.1, q.2.2.1, q.2.2.2.1, q.2.2.2.2.1, q.2.2.2.2.2.2⟩).symm
    · refine a_iconst C0 1 dX6_isFive_28 rfl ?_
      refine a_goto C0 33 dX6_isFive_29 rfl ?_
      refine a_zret C0 hr rfl dX6_isFive_33 ?_
      refine rt_ ?_
      first
        | exact (bI_t ⟨h10.1, h10.2.1, h10.2.2.1, h10.2.2.2.1, h10.2.2.2.2.1, (by_ hb (by omega) c4).mp h25, h10.2.2.2.2.2⟩).symm
        | exact (bI_f fun q => h25 ((by_ hb (by omega) c4).mpr q.2.2.2.2.2.1)).symm
        | exact (bI_f fun q => h10 ⟨q.1, q.2.1, q.2.2.1, q.2.2.2.1, q.2.2.2.2.1, q.2.2.2.2.2.2⟩).symm
set_option maxRecDepth 100000 in
set_option maxHeartbeats 4000000 in
theorem c_X6_kindHere (l : Launch) (G : GE) {ad : Nat → Nat} {M : WM} {O S : RW} {X : WM} {b : RW} {n : Nat} {t : Tk} (h0 : BT O X b n) (hk : MTK O b n t) (hM : M = mkM O S X)  : CT l G yX6_kindHere cX6_kindHere 1 (some .int) 3 [.ref (ad 0)] 14 ad (shM G ad) M (PI (fun r u => r = kdT b t ∧ u = mkM O S X)) := by
  refine CT.of (own := RX6) rfl rfl (le_b rfl) fun p e s m args below meth c A C0 hr => ?_
  refine AW.lo (ls2 := [(0, _)]) rfl ?_
  subst hM
  refine a_aload_n C0 0 dX6_kindHere_0 rfl rfl ?_
  refine a_bipush C0 116 dX6_kindHere_1 rfl ?_
  refine a_bipush C0 97 dX6_kindHere_3 rfl ?_
  refine a_bipush C0 108 dX6_kindHere_5 rfl ?_
  refine a_bipush C0 101 dX6_kindHere_7 rfl ?_
  refine a_callV _ 4 C0 EM.refl (c_X6_isFour l G h0 hk (ch_ rfl) (ch_ rfl) (ch_ rfl) (ch_ rfl) rfl) u_c_X6_isFour u_m_X6_98 u_im_X6_isFour u_se_X6_isFour u_in_X6 hy_X6_isFour rfl (lt_b rfl) rfl (hRk rfl) rfl rfl (le_b rfl) dX6_kindHere_9 (k_ro EM.refl ?_)
  refine a_if_eqb C0 17 dX6_kindHere_12 rfl (fun h12 => ?_) (fun h12 => ?_)
  · have n0 : ¬ nmT b t 0 = true := fun q => h12 (nm_0.mp q)
    refine a_aload_n C0 0 dX6_kindHere_17 rfl rfl ?_
    refine a_bipush C0 110 dX6_kindHere_18 rfl ?_
    refine a_bipush C0 101 dX6_kindHere_20 rfl ?_
    refine a_bipush C0 119 dX6_kindHere_22 rfl ?_
    refine a_bipush C0 115 dX6_kindHere_24 rfl ?_
    refine a_callV _ 4 C0 EM.refl (c_X6_isFour l G h0 hk (ch_ rfl) (ch_ rfl) (ch_ rfl) (ch_ rfl) rfl) u_c_X6_isFour u_m_X6_98 u_im_X6_isFour u_se_X6_isFour u_in_X6 hy_X6_isFour rfl (lt_b rfl) rfl (hRk rfl) rfl rfl (le_b rfl) dX6_kindHere_26 (k_ro EM.refl ?_)
    refine a_if_eqb C0 34 dX6_kindHere_29 rfl (fun h29 => ?_) (fun h29 => ?_)
    · have n1 : ¬ nmT b t 1 = true := fun q => h29 (nm_1.mp q)
      refine a_aload_n C0 0 dX6_kindHere_34 rfl rfl ?_
      refine a_bipush C0 6 dX6_kindHere_35 rfl ?_
      refine a_bipush C0 114 dX6_kindHere_37 rfl ?_
      refine a_bipush C0 117 dX6_kindHere_39 rfl ?_
      refine a_bipush C0 109 dX6_kindHere_41 rfl ?_
      refine a_bipush C0 114 dX6_kindHere_43 rfl ?_
      refine a_callV _ 5 C0 EM.refl (c_X6_isName l G (L := 6) h0 hk rfl (by decide) (ch_ rfl) (ch_ rfl) (ch_ rfl) (ch_ rfl) rfl) u_c_X6_isName u_m_X6_94 u_im_X6_isName u_se_X6_isName u_in_X6 hy_X6_isName rfl (lt_b rfl) rfl (hRk rfl) rfl rfl (le_b rfl) dX6_kindHere_45 (k_ro EM.refl ?_)
      refine a_if_eqb C0 67 dX6_kindHere_48 rfl (fun h48 => ?_) (fun h48 => ?_)
      · have n2 : ¬ nmT b t 2 = true := fun q => by
          have q := nm_2.mp q
          first
            | exact h48 ⟨q.1, q.2.1, q.2.2.1, q.2.2.2.1, q.2.2.2.2.1, q.2.2.2.2.2.2.2⟩
            | exact h62 ⟨q.2.2.2.2.1, q.2.2.2.2.2.1, q.2.2.2.2.2.2.1⟩
        refine a_aload_n C0 0 dX6_kindHere_67 rfl rfl ?_
        refine a_bipush C0 7 dX6_kindHere_68 rfl ?_
        refine a_bipush C0 115 dX6_kindHere_70 rfl ?_
        refine a_bipush C0 99 dX6_kindHere_72 rfl ?_
        refine a_bipush C0 97 dX6_kindHere_74 rfl ?_
        refine a_bipush C0 108 dX6_kindHere_76 rfl ?_
        refine a_callV _ 5 C0 EM.refl (c_X6_isName l G (L := 7) h0 hk rfl (by decide) (ch_ rfl) (ch_ rfl) (ch_ rfl) (ch_ rfl) rfl) u_c_X6_isName u_m_X6_94 u_im_X6_isName u_se_X6_isName u_in_X6 hy_X6_isName rfl (lt_b rfl) rfl (hRk rfl) rfl rfl (le_b rfl) dX6_kindHere_78 (k_ro EM.refl ?_)
        refine a_if_eqb C0 100 dX6_kindHere_81 rfl (fun h81 => ?_) (fun h81 => ?_)
        · have n3 : ¬ nmT b t 3 = true := fun q => by
            have q := nm_3.mp q
            first
              | exact h81 ⟨q.1, q.2.1, q.2.2.1, q.2.2.2.1, q.2.2.2.2.1, q.2.2.2.2.2.2.2.2⟩
              | exact h95 ⟨q.2.2.2.2.2.1, q.2.2.2.2.2.2.1, q.2.2.2.2.2.2.2.1⟩
          refine a_aload_n C0 0 dX6_kindHere_100 rfl rfl ?_
          refine a_bipush C0 7 dX6_kindHere_101 rfl ?_
          refine a_bipush C0 119 dX6_kindHere_103 rfl ?_
          refine a_bipush C0 104 dX6_kindHere_105 rfl ?_
          refine a_bipush C0 105 dX6_kindHere_107 rfl ?_
          refine a_bipush C0 114 dX6_kindHere_109 rfl ?_
          refine a_callV _ 5 C0 EM.refl (c_X6_isName l G (L := 7) h0 hk rfl (by decide) (ch_ rfl) (ch_ rfl) (ch_ rfl) (ch_ rfl) rfl) u_c_X6_isName u_m_X6_94 u_im_X6_isName u_se_X6_isName u_in_X6 hy_X6_isName rfl (lt_b rfl) rfl (hRk rfl) rfl rfl (le_b rfl) dX6_kindHere_111 (k_ro EM.refl ?_)
          refine a_if_eqb C0 133 dX6_kindHere_114 rfl (fun h114 => ?_) (fun h114 => ?_)
          · have n4 : ¬ nmT b t 4 = true := fun q => by
              have q := nm_4.mp q
              first
                | exact h114 ⟨q.1, q.2.1, q.2.2.1, q.2.2.2.1, q.2.2.2.2.1, q.2.2.2.2.2.2.2.2⟩
                | exact h128 ⟨q.2.2.2.2.2.1, q.2.2.2.2.2.2.1, q.2.2.2.2.2.2.2.1⟩
            refine a_aload_n C0 0 dX6_kindHere_133 rfl rfl ?_
            refine a_bipush C0 116 dX6_kindHere_134 rfl ?_
            refine a_bipush C0 114 dX6_kindHere_136 rfl ?_
            refine a_bipush C0 117 dX6_kindHere_138 rfl ?_
            refine a_bipush C0 116 dX6_kindHere_140 rfl ?_
            refine a_bipush C0 104 dX6_kindHere_142 rfl ?_
            refine a_callV _ 5 C0 EM.refl (c_X6_isFive l G h0 hk (ch_ rfl) (ch_ rfl) (ch_ rfl) (ch_ rfl) (ch_ rfl) rfl) u_c_X6_isFive u_m_X6_105 u_im_X6_isFive u_se_X6_isFive u_in_X6 hy_X6_isFive rfl (lt_b rfl) rfl (hRk rfl) rfl rfl (le_b rfl) dX6_kindHere_144 (k_ro EM.refl ?_)
            refine a_if_eqb C0 154 dX6_kindHere_147 rfl (fun h147 => ?_) (fun h147 => ?_)
            · have n5 : ¬ nmT b t 5 = true := fun q => h147 (nm_5.mp q)
              refine a_iconst C0 (-1) dX6_kindHere_154 rfl ?_
              refine a_iret C0 hr dX6_kindHere_155 ?_
              refine rt_ ?_
              unfold kdT
              first
                | rw [if_neg n0, if_neg n1, if_neg n2, if_neg n3, if_neg n4, if_neg n5]
                | rw [if_neg n0, if_neg n1, if_neg n2, if_neg n3, if_neg n4, if_pos y5]
                | rw [if_neg n0, if_neg n1, if_neg n2, if_neg n3, if_pos y4]
                | rw [if_neg n0, if_neg n1, if_neg n2, if_pos y3]
                | rw [if_neg n0, if_neg n1, if_pos y2]
                | rw [if_neg n0, if_pos y1]
                | rw [if_pos y0]
            · have y5 : nmT b t 5 = true := nm_5.mpr h147
              refine a_iconst C0 5 dX6_kindHere_150 rfl ?_
              refine a_goto C0 155 dX6_kindHere_151 rfl ?_
              refine a_iret C0 hr dX6_kindHere_155 ?_
              refine rt_ ?_
              unfold kdT
              first
                | rw [if_neg n0, if_neg n1, if_neg n2, if_neg n3, if_neg n4, if_neg n5]
                | rw [if_neg n0, if_neg n1, if_neg n2, if_neg n3, if_neg n4, if_pos y5]
                | rw [if_neg n0, if_neg n1, if_neg n2, if_neg n3, if_pos y4]
                | rw [if_neg n0, if_neg n1, if_neg n2, if_pos y3]
                | rw [if_neg n0, if_neg n1, if_pos y2]
                | rw [if_neg n0, if_pos y1]
                | rw [if_pos y0]
          · refine a_aload_n C0 0 dX6_kindHere_117 rfl rfl ?_
            refine a_iconst C0 3 dX6_kindHere_118 rfl ?_
            refine a_bipush C0 115 dX6_kindHere_119 rfl ?_
            refine a_bipush C0 112 dX6_kindHere_121 rfl ?_
            refine a_bipush C0 101 dX6_kindHere_123 rfl ?_
            
            refine a_callV _ 4 C0 EM.refl (c_X6_isSame l G (j := 3) h0 hk rfl (by have := h114.2.1; have := hk.le; omega) (ch_ rfl) (ch_ rfl) (ch_ rfl) rfl) u_c_X6_isSame u_m_X6_102 u_im_X6_isSame u_se_X6_isSame u_in_X6 hy_X6_isSame rfl (lt_b rfl) rfl (hRk rfl) rfl rfl (le_b rfl) dX6_kindHere_125 (k_ro EM.refl ?_)
            refine a_if_eqb C0 133 dX6_kindHere_128 rfl (fun h128 => ?_) (fun h128 => ?_)
            · have n4 : ¬ nmT b t 4 = true := fun q => by
                have q := nm_4.mp q
                first
                  | exact h114 ⟨q.1, q.2.1, q.2.2.1, q.2.2.2.1, q.2.2.2.2.1, q.2.2.2.2.2.2.2.2⟩
                  | exact h128 ⟨q.2.2.2.2.2.1, q.2.2.2.2.2.2.1, q.2.2.2.2.2.2.2.1⟩
              refine a_aload_n C0 0 dX6_kindHere_133 rfl rfl ?_
              refine a_bipush C0 116 dX6_kindHere_134 rfl ?_
              refine a_bipush C0 114 dX6_kindHere_136 rfl ?_
              refine a_bipush C0 117 dX6_kindHere_138 rfl ?_
              refine a_bipush C0 116 dX6_kindHere_140 rfl ?_
              refine a_bipush C0 104 dX6_kindHere_142 rfl ?_
              refine a_callV _ 5 C0 EM.refl (c_X6_isFive l G h0 hk (ch_ rfl) (ch_ rfl) (ch_ rfl) (ch_ rfl) (ch_ rfl) rfl) u_c_X6_isFive u_m_X6_105 u_im_X6_isFive u_se_X6_isFive u_in_X6 hy_X6_isFive rfl (lt_b rfl) rfl (hRk rfl) rfl rfl (le_b rfl) dX6_kindHere_144 (k_ro EM.refl ?_)
              refine a_if_eqb C0 154 dX6_kindHere_147 rfl (fun h147 => ?_) (fun h147 => ?_)
              · have n5 : ¬ nmT b t 5 = true := fun q => h147 (nm_5.mp q)
                refine a_iconst C0 (-1) dX6_kindHere_154 rfl ?_
                refine a_iret C0 hr dX6_kindHere_155 ?_
                refine rt_ ?_
                unfold kdT
                first
                  | rw [if_neg n0, if_neg n1, if_neg n2, if_neg n3, if_neg n4, if_neg n5]
                  | rw [if_neg n0, if_neg n1, if_neg n2, if_neg n3, if_neg n4, if_pos y5]
                  | rw [if_neg n0, if_neg n1, if_neg n2, if_neg n3, if_pos y4]
                  | rw [if_neg n0, if_neg n1, if_neg n2, if_pos y3]
                  | rw [if_neg n0, if_neg n1, if_pos y2]
                  | rw [if_neg n0, if_pos y1]
                  | rw [if_pos y0]
              · have y5 : nmT b t 5 = true := nm_5.mpr h147
                refine a_iconst C0 5 dX6_kindHere_150 rfl ?_
                refine a_goto C0 155 dX6_kindHere_151 rfl ?_
                refine a_iret C0 hr dX6_kindHere_155 ?_
                refine rt_ ?_
                unfold kdT
                first
                  | rw [if_neg n0, if_neg n1, if_neg n2, if_neg n3, if_neg n4, if_neg n5]
                  | rw [if_neg n0, if_neg n1, if_neg n2, if_neg n3, if_neg n4, if_pos y5]
                  | rw [if_neg n0, if_neg n1, if_neg n2, if_neg n3, if_pos y4]
                  | rw [if_neg n0, if_neg n1, if_neg n2, if_pos y3]
                  | rw [if_neg n0, if_neg n1, if_pos y2]
                  | rw [if_neg n0, if_pos y1]
                  | rw [if_pos y0]
            · have y4 : nmT b t 4 = true := nm_4.mpr ⟨h114.1, h114.2.1, h114.2.2.1, h114.2.2.2.1, h114.2.2.2.2.1, h128.1, h128.2.1, h128.2.2, h114.2.2.2.2.2⟩
              refine a_iconst C0 4 dX6_kindHere_131 rfl ?_
              refine a_iret C0 hr dX6_kindHere_132 ?_
              refine rt_ ?_
              unfold kdT
              first
                | rw [if_neg n0, if_neg n1, if_neg n2, if_neg n3, if_neg n4, if_neg n5]
                | rw [if_neg n0, if_neg n1, if_neg n2, if_neg n3, if_neg n4, if_pos y5]
                | rw [if_neg n0, if_neg n1, if_neg n2, if_neg n3, if_pos y4]
                | rw [if_neg n0, if_neg n1, if_neg n2, if_pos y3]
                | rw [if_neg n0, if_neg n1, if_pos y2]
                | rw [if_neg n0, if_pos y1]
                | rw [if_pos y0]
        · refine a_aload_n C0 0 dX6_kindHere_84 rfl rfl ?_
          refine a_iconst C0 3 dX6_kindHere_85 rfl ?_
          refine a_bipush C0 110 dX6_kindHere_86 rfl ?_
          refine a_bipush C0 100 dX6_kindHere_88 rfl ?_
          refine a_bipush C0 97 dX6_kindHere_90 rfl ?_
          
          refine a_callV _ 4 C0 EM.refl (c_X6_isSame l G (j := 3) h0 hk rfl (by have := h81.2.1; have := hk.le; omega) (ch_ rfl) (ch_ rfl) (ch_ rfl) rfl) u_c_X6_isSame u_m_X6_102 u_im_X6_isSame u_se_X6_isSame u_in_X6 hy_X6_isSame rfl (lt_b rfl) rfl (hRk rfl) rfl rfl (le_b rfl) dX6_kindHere_92 (k_ro EM.refl ?_)
          refine a_if_eqb C0 100 dX6_kindHere_95 rfl (fun h95 => ?_) (fun h95 => ?_)
          · have n3 : ¬ nmT b t 3 = true := fun q => by
              have q := nm_3.mp q
              first
                | exact h81 ⟨q.1, q.2.1, q.2.2.1, q.2.2.2.1, q.2.2.2.2.1, q.2.2.2.2.2.2.2.2⟩
                | exact h95 ⟨q.2.2.2.2.2.1, q.2.2.2.2.2.2.1, q.2.2.2.2.2.2.2.1⟩
            refine a_aload_n C0 0 dX6_kindHere_100 rfl rfl ?_
            refine a_bipush C0 7 dX6_kindHere_101 rfl ?_
            refine a_bipush C0 119 dX6_kindHere_103 rfl ?_
            refine a_bipush C0 104 dX6_kindHere_105 rfl ?_
            refine a_bipush C0 105 dX6_kindHere_107 rfl ?_
            refine a_bipush C0 114 dX6_kindHere_109 rfl ?_
            refine a_callV _ 5 C0 EM.refl (c_X6_isName l G (L := 7) h0 hk rfl (by decide) (ch_ rfl) (ch_ rfl) (ch_ rfl) (ch_ rfl) rfl) u_c_X6_isName u_m_X6_94 u_im_X6_isName u_se_X6_isName u_in_X6 hy_X6_isName rfl (lt_b rfl) rfl (hRk rfl) rfl rfl (le_b rfl) dX6_kindHere_111 (k_ro EM.refl ?_)
            refine a_if_eqb C0 133 dX6_kindHere_114 rfl (fun h114 => ?_) (fun h114 => ?_)
            · have n4 : ¬ nmT b t 4 = true := fun q => by
                have q := nm_4.mp q
                first
                  | exact h114 ⟨q.1, q.2.1, q.2.2.1, q.2.2.2.1, q.2.2.2.2.1, q.2.2.2.2.2.2.2.2⟩
                  | exact h128 ⟨q.2.2.2.2.2.1, q.2.2.2.2.2.2.1, q.2.2.2.2.2.2.2.1⟩
              refine a_aload_n C0 0 dX6_kindHere_133 rfl rfl ?_
              refine a_bipush C0 116 dX6_kindHere_134 rfl ?_
              refine a_bipush C0 114 dX6_kindHere_136 rfl ?_
              refine a_bipush C0 117 dX6_kindHere_138 rfl ?_
              refine a_bipush C0 116 dX6_kindHere_140 rfl ?_
              refine a_bipush C0 104 dX6_kindHere_142 rfl ?_
              refine a_callV _ 5 C0 EM.refl (c_X6_isFive l G h0 hk (ch_ rfl) (ch_ rfl) (ch_ rfl) (ch_ rfl) (ch_ rfl) rfl) u_c_X6_isFive u_m_X6_105 u_im_X6_isFive u_se_X6_isFive u_in_X6 hy_X6_isFive rfl (lt_b rfl) rfl (hRk rfl) rfl rfl (le_b rfl) dX6_kindHere_144 (k_ro EM.refl ?_)
              refine a_if_eqb C0 154 dX6_kindHere_147 rfl (fun h147 => ?_) (fun h147 => ?_)
              · have n5 : ¬ nmT b t 5 = true := fun q => h147 (nm_5.mp q)
                refine a_iconst C0 (-1) dX6_kindHere_154 rfl ?_
                refine a_iret C0 hr dX6_kindHere_155 ?_
                refine rt_ ?_
                unfold kdT
                first
                  | rw [if_neg n0, if_neg n1, if_neg n2, if_neg n3, if_neg n4, if_neg n5]
                  | rw [if_neg n0, if_neg n1, if_neg n2, if_neg n3, if_neg n4, if_pos y5]
                  | rw [if_neg n0, if_neg n1, if_neg n2, if_neg n3, if_pos y4]
                  | rw [if_neg n0, if_neg n1, if_neg n2, if_pos y3]
                  | rw [if_neg n0, if_neg n1, if_pos y2]
                  | rw [if_neg n0, if_pos y1]
                  | rw [if_pos y0]
              · have y5 : nmT b t 5 = true := nm_5.mpr h147
                refine a_iconst C0 5 dX6_kindHere_150 rfl ?_
                refine a_goto C0 155 dX6_kindHere_151 rfl ?_
                refine a_iret C0 hr dX6_kindHere_155 ?_
                refine rt_ ?_
                unfold kdT
                first
                  | rw [if_neg n0, if_neg n1, if_neg n2, if_neg n3, if_neg n4, if_neg n5]
                  | rw [if_neg n0, if_neg n1, if_neg n2, if_neg n3, if_neg n4, if_pos y5]
                  | rw [if_neg n0, if_neg n1, if_neg n2, if_neg n3, if_pos y4]
                  | rw [if_neg n0, if_neg n1, if_neg n2, if_pos y3]
                  | rw [if_neg n0, if_neg n1, if_pos y2]
                  | rw [if_neg n0, if_pos y1]
                  | rw [if_pos y0]
            · refine a_aload_n C0 0 dX6_kindHere_117 rfl rfl ?_
              refine a_iconst C0 3 dX6_kindHere_118 rfl ?_
              refine a_bipush C0 115 dX6_kindHere_119 rfl ?_
              refine a_bipush C0 112 dX6_kindHere_121 rfl ?_
              refine a_bipush C0 101 dX6_kindHere_123 rfl ?_
              
              refine a_callV _ 4 C0 EM.refl (c_X6_isSame l G (j := 3) h0 hk rfl (by have := h114.2.1; have := hk.le; omega) (ch_ rfl) (ch_ rfl) (ch_ rfl) rfl) u_c_X6_isSame u_m_X6_102 u_im_X6_isSame u_se_X6_isSame u_in_X6 hy_X6_isSame rfl (lt_b rfl) rfl (hRk rfl) rfl rfl (le_b rfl) dX6_kindHere_125 (k_ro EM.refl ?_)
              refine a_if_eqb C0 133 dX6_kindHere_128 rfl (fun h128 => ?_) (fun h128 => ?_)
              · have n4 : ¬ nmT b t 4 = true := fun q => by
                  have q := nm_4.mp q
                  first
                    | exact h114 ⟨q.1, q.2.1, q.2.2.1, q.2.2.2.1, q.2.2.2.2.1, q.2.2.2.2.2.2.2.2⟩
                    | exact h128 ⟨q.2.2.2.2.2.1, q.2.2.2.2.2.2.1, q.2.2.2.2.2.2.2.1⟩
                refine a_aload_n C0 0 dX6_kindHere_133 rfl rfl ?_
                refine a_bipush C0 116 dX6_kindHere_134 rfl ?_
                refine a_bipush C0 114 dX6_kindHere_136 rfl ?_
                refine a_bipush C0 117 dX6_kindHere_138 rfl ?_
                refine a_bipush C0 116 dX6_kindHere_140 rfl ?_
                refine a_bipush C0 104 dX6_kindHere_142 rfl ?_
                refine a_callV _ 5 C0 EM.refl (c_X6_isFive l G h0 hk (ch_ rfl) (ch_ rfl) (ch_ rfl) (ch_ rfl) (ch_ rfl) rfl) u_c_X6_isFive u_m_X6_105 u_im_X6_isFive u_se_X6_isFive u_in_X6 hy_X6_isFive rfl (lt_b rfl) rfl (hRk rfl) rfl rfl (le_b rfl) dX6_kindHere_144 (k_ro EM.refl ?_)
                refine a_if_eqb C0 154 dX6_kindHere_147 rfl (fun h147 => ?_) (fun h147 => ?_)
                · have n5 : ¬ nmT b t 5 = true := fun q => h147 (nm_5.mp q)
                  refine a_iconst C0 (-1) dX6_kindHere_154 rfl ?_
                  refine a_iret C0 hr dX6_kindHere_155 ?_
                  refine rt_ ?_
                  unfold kdT
                  first
                    | rw [if_neg n0, if_neg n1, if_neg n2, if_neg n3, if_neg n4, if_neg n5]
                    | rw [if_neg n0, if_neg n1, if_neg n2, if_neg n3, if_neg n4, if_pos y5]
                    | rw [if_neg n0, if_neg n1, if_neg n2, if_neg n3, if_pos y4]
                    | rw [if_neg n0, if_neg n1, if_neg n2, if_pos y3]
                    | rw [if_neg n0, if_neg n1, if_pos y2]
                    | rw [if_neg n0, if_pos y1]
                    | rw [if_pos y0]
                · have y5 : nmT b t 5 = true := nm_5.mpr h147
                  refine a_iconst C0 5 dX6_kindHere_150 rfl ?_
                  refine a_goto C0 155 dX6_kindHere_151 rfl ?_
                  refine a_iret C0 hr dX6_kindHere_155 ?_
                  refine rt_ ?_
                  unfold kdT
                  first
                    | rw [if_neg n0, if_neg n1, if_neg n2, if_neg n3, if_neg n4, if_neg n5]
                    | rw [if_neg n0, if_neg n1, if_neg n2, if_neg n3, if_neg n4, if_pos y5]
                    | rw [if_neg n0, if_neg n1, if_neg n2, if_neg n3, if_pos y4]
                    | rw [if_neg n0, if_neg n1, if_neg n2, if_pos y3]
                    | rw [if_neg n0, if_neg n1, if_pos y2]
                    | rw [if_neg n0, if_pos y1]
                    | rw [if_pos y0]
              · have y4 : nmT b t 4 = true := nm_4.mpr ⟨h114.1, h114.2.1, h114.2.2.1, h114.2.2.2.1, h114.2.2.2.2.1, h128.1, h128.2.1, h128.2.2, h114.2.2.2.2.2⟩
                refine a_iconst C0 4 dX6_kindHere_131 rfl ?_
                refine a_iret C0 hr dX6_kindHere_132 ?_
                refine rt_ ?_
                unfold kdT
                first
                  | rw [if_neg n0, if_neg n1, if_neg n2, if_neg n3, if_neg n4, if_neg n5]
                  | rw [if_neg n0, if_neg n1, if_neg n2, if_neg n3, if_neg n4, if_pos y5]
                  | rw [if_neg n0, if_neg n1, if_neg n2, if_neg n3, if_pos y4]
                  | rw [if_neg n0, if_neg n1, if_neg n2, if_pos y3]
                  | rw [if_neg n0, if_neg n1, if_pos y2]
                  | rw [if_neg n0, if_pos y1]
                  | rw [if_pos y0]
          · have y3 : nmT b t 3 = true := nm_3.mpr ⟨h81.1, h81.2.1, h81.2.2.1, h81.2.2.2.1, h81.2.2.2.2.1, h95.1, h95.2.1, h95.2.2, h81.2.2.2.2.2⟩
            refine a_iconst C0 3 dX6_kindHere_98 rfl ?_
            refine a_iret C0 hr dX6_kindHere_99 ?_
            refine rt_ ?_
            unfold kdT
            first
              | rw [if_neg n0, if_neg n1, if_neg n2, if_neg n3, if_neg n4, if_neg n5]
              | rw [if_neg n0, if_neg n1, if_neg n2, if_neg n3, if_neg n4, if_pos y5]
              | rw [if_neg n0, if_neg n1, if_neg n2, if_neg n3, if_pos y4]
              | rw [if_neg n0, if_neg n1, if_neg n2, if_pos y3]
              | rw [if_neg n0, if_neg n1, if_pos y2]
              | rw [if_neg n0, if_pos y1]
              | rw [if_pos y0]
      · refine a_aload_n C0 0 dX6_kindHere_51 rfl rfl ?_
        refine a_iconst C0 2 dX6_kindHere_52 rfl ?_
        refine a_bipush C0 109 dX6_kindHere_53 rfl ?_
        refine a_bipush C0 111 dX6_kindHere_55 rfl ?_
        refine a_bipush C0 117 dX6_kindHere_57 rfl ?_
        
        refine a_callV _ 4 C0 EM.refl (c_X6_isSame l G (j := 2) h0 hk rfl (by have := h48.2.1; have := hk.le; omega) (ch_ rfl) (ch_ rfl) (ch_ rfl) rfl) u_c_X6_isSame u_m_X6_102 u_im_X6_isSame u_se_X6_isSame u_in_X6 hy_X6_isSame rfl (lt_b rfl) rfl (hRk rfl) rfl rfl (le_b rfl) dX6_kindHere_59 (k_ro EM.refl ?_)
        refine a_if_eqb C0 67 dX6_kindHere_62 rfl (fun h62 => ?_) (fun h62 => ?_)
        · have n2 : ¬ nmT b t 2 = true := fun q => by
            have q := nm_2.mp q
            first
              | exact h48 ⟨q.1, q.2.1, q.2.2.1, q.2.2.2.1, q.2.2.2.2.1, q.2.2.2.2.2.2.2⟩
              | exact h62 ⟨q.2.2.2.2.1, q.2.2.2.2.2.1, q.2.2.2.2.2.2.1⟩
          refine a_aload_n C0 0 dX6_kindHere_67 rfl rfl ?_
          refine a_bipush C0 7 dX6_kindHere_68 rfl ?_
          refine a_bipush C0 115 dX6_kindHere_70 rfl ?_
          refine a_bipush C0 99 dX6_kindHere_72 rfl ?_
          refine a_bipush C0 97 dX6_kindHere_74 rfl ?_
          refine a_bipush C0 108 dX6_kindHere_76 rfl ?_
          refine a_callV _ 5 C0 EM.refl (c_X6_isName l G (L := 7) h0 hk rfl (by decide) (ch_ rfl) (ch_ rfl) (ch_ rfl) (ch_ rfl) rfl) u_c_X6_isName u_m_X6_94 u_im_X6_isName u_se_X6_isName u_in_X6 hy_X6_isName rfl (lt_b rfl) rfl (hRk rfl) rfl rfl (le_b rfl) dX6_kindHere_78 (k_ro EM.refl ?_)
          refine a_if_eqb C0 100 dX6_kindHere_81 rfl (fun h81 => ?_) (fun h81 => ?_)
          · have n3 : ¬ nmT b t 3 = true := fun q => by
              have q := nm_3.mp q
              first
                | exact h81 ⟨q.1, q.2.1, q.2.2.1, q.2.2.2.1, q.2.2.2.2.1, q.2.2.2.2.2.2.2.2⟩
                | exact h95 ⟨q.2.2.2.2.2.1, q.2.2.2.2.2.2.1, q.2.2.2.2.2.2.2.1⟩
            refine a_aload_n C0 0 dX6_kindHere_100 rfl rfl ?_
            refine a_bipush C0 7 dX6_kindHere_101 rfl ?_
            refine a_bipush C0 119 dX6_kindHere_103 rfl ?_
            refine a_bipush C0 104 dX6_kindHere_105 rfl ?_
            refine a_bipush C0 105 dX6_kindHere_107 rfl ?_
            refine a_bipush C0 114 dX6_kindHere_109 rfl ?_
            refine a_callV _ 5 C0 EM.refl (c_X6_isName l G (L := 7) h0 hk rfl (by decide) (ch_ rfl) (ch_ rfl) (ch_ rfl) (ch_ rfl) rfl) u_c_X6_isName u_m_X6_94 u_im_X6_isName u_se_X6_isName u_in_X6 hy_X6_isName rfl (lt_b rfl) rfl (hRk rfl) rfl rfl (le_b rfl) dX6_kindHere_111 (k_ro EM.refl ?_)
            refine a_if_eqb C0 133 dX6_kindHere_114 rfl (fun h114 => ?_) (fun h114 => ?_)
            · have n4 : ¬ nmT b t 4 = true := fun q => by
                have q := nm_4.mp q
                first
                  | exact h114 ⟨q.1, q.2.1, q.2.2.1, q.2.2.2.1, q.2.2.2.2.1, q.2.2.2.2.2.2.2.2⟩
                  | exact h128 ⟨q.2.2.2.2.2.1, q.2.2.2.2.2.2.1, q.2.2.2.2.2.2.2.1⟩
              refine a_aload_n C0 0 dX6_kindHere_133 rfl rfl ?_
              refine a_bipush C0 116 dX6_kindHere_134 rfl ?_
              refine a_bipush C0 114 dX6_kindHere_136 rfl ?_
              refine a_bipush C0 117 dX6_kindHere_138 rfl ?_
              refine a_bipush C0 116 dX6_kindHere_140 rfl ?_
              refine a_bipush C0 104 dX6_kindHere_142 rfl ?_
              refine a_callV _ 5 C0 EM.refl (c_X6_isFive l G h0 hk (ch_ rfl) (ch_ rfl) (ch_ rfl) (ch_ rfl) (ch_ rfl) rfl) u_c_X6_isFive u_m_X6_105 u_im_X6_isFive u_se_X6_isFive u_in_X6 hy_X6_isFive rfl (lt_b rfl) rfl (hRk rfl) rfl rfl (le_b rfl) dX6_kindHere_144 (k_ro EM.refl ?_)
              refine a_if_eqb C0 154 dX6_kindHere_147 rfl (fun h147 => ?_) (fun h147 => ?_)
              · have n5 : ¬ nmT b t 5 = true := fun q => h147 (nm_5.mp q)
                refine a_iconst C0 (-1) dX6_kindHere_154 rfl ?_
                refine a_iret C0 hr dX6_kindHere_155 ?_
                refine rt_ ?_
                unfold kdT
                first
                  | rw [if_neg n0, if_neg n1, if_neg n2, if_neg n3, if_neg n4, if_neg n5]
                  | rw [if_neg n0, if_neg n1, if_neg n2, if_neg n3, if_neg n4, if_pos y5]
                  | rw [if_neg n0, if_neg n1, if_neg n2, if_neg n3, if_pos y4]
                  | rw [if_neg n0, if_neg n1, if_neg n2, if_pos y3]
                  | rw [if_neg n0, if_neg n1, if_pos y2]
                  | rw [if_neg n0, if_pos y1]
                  | rw [if_pos y0]
              · have y5 : nmT b t 5 = true := nm_5.mpr h147
                refine a_iconst C0 5 dX6_kindHere_150 rfl ?_
                refine a_goto C0 155 dX6_kindHere_151 rfl ?_
                refine a_iret C0 hr dX6_kindHere_155 ?_
                refine rt_ ?_
                unfold kdT
                first
                  | rw [if_neg n0, if_neg n1, if_neg n2, if_neg n3, if_neg n4, if_neg n5]
                  | rw [if_neg n0, if_neg n1, if_neg n2, if_neg n3, if_neg n4, if_pos y5]
                  | rw [if_neg n0, if_neg n1, if_neg n2, if_neg n3, if_pos y4]
                  | rw [if_neg n0, if_neg n1, if_neg n2, if_pos y3]
                  | rw [if_neg n0, if_neg n1, if_pos y2]
                  | rw [if_neg n0, if_pos y1]
                  | rw [if_pos y0]
            · refine a_aload_n C0 0 dX6_kindHere_117 rfl rfl ?_
              refine a_iconst C0 3 dX6_kindHere_118 rfl ?_
              refine a_bipush C0 115 dX6_kindHere_119 rfl ?_
              refine a_bipush C0 112 dX6_kindHere_121 rfl ?_
              refine a_bipush C0 101 dX6_kindHere_123 rfl ?_
              
              refine a_callV _ 4 C0 EM.refl (c_X6_isSame l G (j := 3) h0 hk rfl (by have := h114.2.1; have := hk.le; omega) (ch_ rfl) (ch_ rfl) (ch_ rfl) rfl) u_c_X6_isSame u_m_X6_102 u_im_X6_isSame u_se_X6_isSame u_in_X6 hy_X6_isSame rfl (lt_b rfl) rfl (hRk rfl) rfl rfl (le_b rfl) dX6_kindHere_125 (k_ro EM.refl ?_)
              refine a_if_eqb C0 133 dX6_kindHere_128 rfl (fun h128 => ?_) (fun h128 => ?_)
              · have n4 : ¬ nmT b t 4 = true := fun q => by
                  have q := nm_4.mp q
                  first
                    | exact h114 ⟨q.1, q.2.1, q.2.2.1, q.2.2.2.1, q.2.2.2.2.1, q.2.2.2.2.2.2.2.2⟩
                    | exact h128 ⟨q.2.2.2.2.2.1, q.2.2.2.2.2.2.1, q.2.2.2.2.2.2.2.1⟩
                refine a_aload_n C0 0 dX6_kindHere_133 rfl rfl ?_
                refine a_bipush C0 116 dX6_kindHere_134 rfl ?_
                refine a_bipush C0 114 dX6_kindHere_136 rfl ?_
                refine a_bipush C0 117 dX6_kindHere_138 rfl ?_
                refine a_bipush C0 116 dX6_kindHere_140 rfl ?_
                refine a_bipush C0 104 dX6_kindHere_142 rfl ?_
                refine a_callV _ 5 C0 EM.refl (c_X6_isFive l G h0 hk (ch_ rfl) (ch_ rfl) (ch_ rfl) (ch_ rfl) (ch_ rfl) rfl) u_c_X6_isFive u_m_X6_105 u_im_X6_isFive u_se_X6_isFive u_in_X6 hy_X6_isFive rfl (lt_b rfl) rfl (hRk rfl) rfl rfl (le_b rfl) dX6_kindHere_144 (k_ro EM.refl ?_)
                refine a_if_eqb C0 154 dX6_kindHere_147 rfl (fun h147 => ?_) (fun h147 => ?_)
                · have n5 : ¬ nmT b t 5 = true := fun q => h147 (nm_5.mp q)
                  refine a_iconst C0 (-1) dX6_kindHere_154 rfl ?_
                  refine a_iret C0 hr dX6_kindHere_155 ?_
                  refine rt_ ?_
                  unfold kdT
                  first
                    | rw [if_neg n0, if_neg n1, if_neg n2, if_neg n3, if_neg n4, if_neg n5]
                    | rw [if_neg n0, if_neg n1, if_neg n2, if_neg n3, if_neg n4, if_pos y5]
                    | rw [if_neg n0, if_neg n1, if_neg n2, if_neg n3, if_pos y4]
                    | rw [if_neg n0, if_neg n1, if_neg n2, if_pos y3]
                    | rw [if_neg n0, if_neg n1, if_pos y2]
                    | rw [if_neg n0, if_pos y1]
                    | rw [if_pos y0]
                · have y5 : nmT b t 5 = true := nm_5.mpr h147
                  refine a_iconst C0 5 dX6_kindHere_150 rfl ?_
                  refine a_goto C0 155 dX6_kindHere_151 rfl ?_
                  refine a_iret C0 hr dX6_kindHere_155 ?_
                  refine rt_ ?_
                  unfold kdT
                  first
                    | rw [if_neg n0, if_neg n1, if_neg n2, if_neg n3, if_neg n4, if_neg n5]
                    | rw [if_neg n0, if_neg n1, if_neg n2, if_neg n3, if_neg n4, if_pos y5]
                    | rw [if_neg n0, if_neg n1, if_neg n2, if_neg n3, if_pos y4]
                    | rw [if_neg n0, if_neg n1, if_neg n2, if_pos y3]
                    | rw [if_neg n0, if_neg n1, if_pos y2]
                    | rw [if_neg n0, if_pos y1]
                    | rw [if_pos y0]
              · have y4 : nmT b t 4 = true := nm_4.mpr ⟨h114.1, h114.2.1, h114.2.2.1, h114.2.2.2.1, h114.2.2.2.2.1, h128.1, h128.2.1, h128.2.2, h114.2.2.2.2.2⟩
                refine a_iconst C0 4 dX6_kindHere_131 rfl ?_
                refine a_iret C0 hr dX6_kindHere_132 ?_
                refine rt_ ?_
                unfold kdT
                first
                  | rw [if_neg n0, if_neg n1, if_neg n2, if_neg n3, if_neg n4, if_neg n5]
                  | rw [if_neg n0, if_neg n1, if_neg n2, if_neg n3, if_neg n4, if_pos y5]
                  | rw [if_neg n0, if_neg n1, if_neg n2, if_neg n3, if_pos y4]
                  | rw [if_neg n0, if_neg n1, if_neg n2, if_pos y3]
                  | rw [if_neg n0, if_neg n1, if_pos y2]
                  | rw [if_neg n0, if_pos y1]
                  | rw [if_pos y0]
          · refine a_aload_n C0 0 dX6_kindHere_84 rfl rfl ?_
            refine a_iconst C0 3 dX6_kindHere_85 rfl ?_
            refine a_bipush C0 110 dX6_kindHere_86 rfl ?_
            refine a_bipush C0 100 dX6_kindHere_88 rfl ?_
            refine a_bipush C0 97 dX6_kindHere_90 rfl ?_
            
            refine a_callV _ 4 C0 EM.refl (c_X6_isSame l G (j := 3) h0 hk rfl (by have := h81.2.1; have := hk.le; omega) (ch_ rfl) (ch_ rfl) (ch_ rfl) rfl) u_c_X6_isSame u_m_X6_102 u_im_X6_isSame u_se_X6_isSame u_in_X6 hy_X6_isSame rfl (lt_b rfl) rfl (hRk rfl) rfl rfl (le_b rfl) dX6_kindHere_92 (k_ro EM.refl ?_)
            refine a_if_eqb C0 100 dX6_kindHere_95 rfl (fun h95 => ?_) (fun h95 => ?_)
            · have n3 : ¬ nmT b t 3 = true := fun q => by
                have q := nm_3.mp q
                first
                  | exact h81 ⟨q.1, q.2.1, q.2.2.1, q.2.2.2.1, q.2.2.2.2.1, q.2.2.2.2.2.2.2.2⟩
                  | exact h95 ⟨q.2.2.2.2.2.1, q.2.2.2.2.2.2.1, q.2.2.2.2.2.2.2.1⟩
              refine a_aload_n C0 0 dX6_kindHere_100 rfl rfl ?_
              refine a_bipush C0 7 dX6_kindHere_101 rfl ?_
              refine a_bipush C0 119 dX6_kindHere_103 rfl ?_
              refine a_bipush C0 104 dX6_kindHere_105 rfl ?_
              refine a_bipush C0 105 dX6_kindHere_107 rfl ?_
              refine a_bipush C0 114 dX6_kindHere_109 rfl ?_
              refine a_callV _ 5 C0 EM.refl (c_X6_isName l G (L := 7) h0 hk rfl (by decide) (ch_ rfl) (ch_ rfl) (ch_ rfl) (ch_ rfl) rfl) u_c_X6_isName u_m_X6_94 u_im_X6_isName u_se_X6_isName u_in_X6 hy_X6_isName rfl (lt_b rfl) rfl (hRk rfl) rfl rfl (le_b rfl) dX6_kindHere_111 (k_ro EM.refl ?_)
              refine a_if_eqb C0 133 dX6_kindHere_114 rfl (fun h114 => ?_) (fun h114 => ?_)
              · have n4 : ¬ nmT b t 4 = true := fun q => by
                  have q := nm_4.mp q
                  first
                    | exact h114 ⟨q.1, q.2.1, q.2.2.1, q.2.2.2.1, q.2.2.2.2.1, q.2.2.2.2.2.2.2.2⟩
                    | exact h128 ⟨q.2.2.2.2.2.1, q.2.2.2.2.2.2.1, q.2.2.2.2.2.2.2.1⟩
                refine a_aload_n C0 0 dX6_kindHere_133 rfl rfl ?_
                refine a_bipush C0 116 dX6_kindHere_134 rfl ?_
                refine a_bipush C0 114 dX6_kindHere_136 rfl ?_
                refine a_bipush C0 117 dX6_kindHere_138 rfl ?_
                refine a_bipush C0 116 dX6_kindHere_140 rfl ?_
                refine a_bipush C0 104 dX6_kindHere_142 rfl ?_
                refine a_callV _ 5 C0 EM.refl (c_X6_isFive l G h0 hk (ch_ rfl) (ch_ rfl) (ch_ rfl) (ch_ rfl) (ch_ rfl) rfl) u_c_X6_isFive u_m_X6_105 u_im_X6_isFive u_se_X6_isFive u_in_X6 hy_X6_isFive rfl (lt_b rfl) rfl (hRk rfl) rfl rfl (le_b rfl) dX6_kindHere_144 (k_ro EM.refl ?_)
                refine a_if_eqb C0 154 dX6_kindHere_147 rfl (fun h147 => ?_) (fun h147 => ?_)
                · have n5 : ¬ nmT b t 5 = true := fun q => h147 (nm_5.mp q)
                  refine a_iconst C0 (-1) dX6_kindHere_154 rfl ?_
                  refine a_iret C0 hr dX6_kindHere_155 ?_
                  refine rt_ ?_
                  unfold kdT
                  first
                    | rw [if_neg n0, if_neg n1, if_neg n2, if_neg n3, if_neg n4, if_neg n5]
                    | rw [if_neg n0, if_neg n1, if_neg n2, if_neg n3, if_neg n4, if_pos y5]
                    | rw [if_neg n0, if_neg n1, if_neg n2, if_neg n3, if_pos y4]
                    | rw [if_neg n0, if_neg n1, if_neg n2, if_pos y3]
                    | rw [if_neg n0, if_neg n1, if_pos y2]
                    | rw [if_neg n0, if_pos y1]
                    | rw [if_pos y0]
                · have y5 : nmT b t 5 = true := nm_5.mpr h147
                  refine a_iconst C0 5 dX6_kindHere_150 rfl ?_
                  refine a_goto C0 155 dX6_kindHere_151 rfl ?_
                  refine a_iret C0 hr dX6_kindHere_155 ?_
                  refine rt_ ?_
                  unfold kdT
                  first
                    | rw [if_neg n0, if_neg n1, if_neg n2, if_neg n3, if_neg n4, if_neg n5]
                    | rw [if_neg n0, if_neg n1, if_neg n2, if_neg n3, if_neg n4, if_pos y5]
                    | rw [if_neg n0, if_neg n1, if_neg n2, if_neg n3, if_pos y4]
                    | rw [if_neg n0, if_neg n1, if_neg n2, if_pos y3]
                    | rw [if_neg n0, if_neg n1, if_pos y2]
                    | rw [if_neg n0, if_pos y1]
                    | rw [if_pos y0]
              · refine a_aload_n C0 0 dX6_kindHere_117 rfl rfl ?_
                refine a_iconst C0 3 dX6_kindHere_118 rfl ?_
                refine a_bipush C0 115 dX6_kindHere_119 rfl ?_
                refine a_bipush C0 112 dX6_kindHere_121 rfl ?_
                refine a_bipush C0 101 dX6_kindHere_123 rfl ?_
                
                refine a_callV _ 4 C0 EM.refl (c_X6_isSame l G (j := 3) h0 hk rfl (by have := h114.2.1; have := hk.le; omega) (ch_ rfl) (ch_ rfl) (ch_ rfl) rfl) u_c_X6_isSame u_m_X6_102 u_im_X6_isSame u_se_X6_isSame u_in_X6 hy_X6_isSame rfl (lt_b rfl) rfl (hRk rfl) rfl rfl (le_b rfl) dX6_kindHere_125 (k_ro EM.refl ?_)
                refine a_if_eqb C0 133 dX6_kindHere_128 rfl (fun h128 => ?_) (fun h128 => ?_)
                · have n4 : ¬ nmT b t 4 = true := fun q => by
                    have q := nm_4.mp q
                    first
                      | exact h114 ⟨q.1, q.2.1, q.2.2.1, q.2.2.2.1, q.2.2.2.2.1, q.2.2.2.2.2.2.2.2⟩
                      | exact h128 ⟨q.2.2.2.2.2.1, q.2.2.2.2.2.2.1, q.2.2.2.2.2.2.2.1⟩
                  refine a_aload_n C0 0 dX6_kindHere_133 rfl rfl ?_
                  refine a_bipush C0 116 dX6_kindHere_134 rfl ?_
                  refine a_bipush C0 114 dX6_kindHere_136 rfl ?_
                  refine a_bipush C0 117 dX6_kindHere_138 rfl ?_
                  refine a_bipush C0 116 dX6_kindHere_140 rfl ?_
                  refine a_bipush C0 104 dX6_kindHere_142 rfl ?_
                  refine a_callV _ 5 C0 EM.refl (c_X6_isFive l G h0 hk (ch_ rfl) (ch_ rfl) (ch_ rfl) (ch_ rfl) (ch_ rfl) rfl) u_c_X6_isFive u_m_X6_105 u_im_X6_isFive u_se_X6_isFive u_in_X6 hy_X6_isFive rfl (lt_b rfl) rfl (hRk rfl) rfl rfl (le_b rfl) dX6_kindHere_144 (k_ro EM.refl ?_)
                  refine a_if_eqb C0 154 dX6_kindHere_147 rfl (fun h147 => ?_) (fun h147 => ?_)
                  · have n5 : ¬ nmT b t 5 = true := fun q => h147 (nm_5.mp q)
                    refine a_iconst C0 (-1) dX6_kindHere_154 rfl ?_
                    refine a_iret C0 hr dX6_kindHere_155 ?_
                    refine rt_ ?_
                    unfold kdT
                    first
                      | rw [if_neg n0, if_neg n1, if_neg n2, if_neg n3, if_neg n4, if_neg n5]
                      | rw [if_neg n0, if_neg n1, if_neg n2, if_neg n3, if_neg n4, if_pos y5]
                      | rw [if_neg n0, if_neg n1, if_neg n2, if_neg n3, if_pos y4]
                      | rw [if_neg n0, if_neg n1, if_neg n2, if_pos y3]
                      | rw [if_neg n0, if_neg n1, if_pos y2]
                      | rw [if_neg n0, if_pos y1]
                      | rw [if_pos y0]
                  · have y5 : nmT b t 5 = true := nm_5.mpr h147
                    refine a_iconst C0 5 dX6_kindHere_150 rfl ?_
                    refine a_goto C0 155 dX6_kindHere_151 rfl ?_
                    refine a_iret C0 hr dX6_kindHere_155 ?_
                    refine rt_ ?_
                    unfold kdT
                    first
                      | rw [if_neg n0, if_neg n1, if_neg n2, if_neg n3, if_neg n4, if_neg n5]
                      | rw [if_neg n0, if_neg n1, if_neg n2, if_neg n3, if_neg n4, if_pos y5]
                      | rw [if_neg n0, if_neg n1, if_neg n2, if_neg n3, if_pos y4]
                      | rw [if_neg n0, if_neg n1, if_neg n2, if_pos y3]
                      | rw [if_neg n0, if_neg n1, if_pos y2]
                      | rw [if_neg n0, if_pos y1]
                      | rw [if_pos y0]
                · have y4 : nmT b t 4 = true := nm_4.mpr ⟨h114.1, h114.2.1, h114.2.2.1, h114.2.2.2.1, h114.2.2.2.2.1, h128.1, h128.2.1, h128.2.2, h114.2.2.2.2.2⟩
                  refine a_iconst C0 4 dX6_kindHere_131 rfl ?_
                  refine a_iret C0 hr dX6_kindHere_132 ?_
                  refine rt_ ?_
                  unfold kdT
                  first
                    | rw [if_neg n0, if_neg n1, if_neg n2, if_neg n3, if_neg n4, if_neg n5]
                    | rw [if_neg n0, if_neg n1, if_neg n2, if_neg n3, if_neg n4, if_pos y5]
                    | rw [if_neg n0, if_neg n1, if_neg n2, if_neg n3, if_pos y4]
                    | rw [if_neg n0, if_neg n1, if_neg n2, if_pos y3]
                    | rw [if_neg n0, if_neg n1, if_pos y2]
                    | rw [if_neg n0, if_pos y1]
                    | rw [if_pos y0]
            · have y3 : nmT b t 3 = true := nm_3.mpr ⟨h81.1, h81.2.1, h81.2.2.1, h81.2.2.2.1, h81.2.2.2.2.1, h95.1, h95.2.1, h95.2.2, h81.2.2.2.2.2⟩
              refine a_iconst C0 3 dX6_kindHere_98 rfl ?_
              refine a_iret C0 hr dX6_kindHere_99 ?_
              refine rt_ ?_
              unfold kdT
              first
                | rw [if_neg n0, if_neg n1, if_neg n2, if_neg n3, if_neg n4, if_neg n5]
                | rw [if_neg n0, if_neg n1, if_neg n2, if_neg n3, if_neg n4, if_pos y5]
                | rw [if_neg n0, if_neg n1, if_neg n2, if_neg n3, if_pos y4]
                | rw [if_neg n0, if_neg n1, if_neg n2, if_pos y3]
                | rw [if_neg n0, if_neg n1, if_pos y2]
                | rw [if_neg n0, if_pos y1]
                | rw [if_pos y0]
        · have y2 : nmT b t 2 = true := nm_2.mpr ⟨h48.1, h48.2.1, h48.2.2.1, h48.2.2.2.1, h48.2.2.2.2.1, h62.2.1, h62.2.2, h48.2.2.2.2.2⟩
          refine a_iconst C0 2 dX6_kindHere_65 rfl ?_
          refine a_iret C0 hr dX6_kindHere_66 ?_
          refine rt_ ?_
          unfold kdT
          first
            | rw [if_neg n0, if_neg n1, if_neg n2, if_neg n3, if_neg n4, if_neg n5]
            | rw [if_neg n0, if_neg n1, if_neg n2, if_neg n3, if_neg n4, if_pos y5]
            | rw [if_neg n0, if_neg n1, if_neg n2, if_neg n3, if_pos y4]
            | rw [if_neg n0, if_neg n1, if_neg n2, if_pos y3]
            | rw [if_neg n0, if_neg n1, if_pos y2]
            | rw [if_neg n0, if_pos y1]
            | rw [if_pos y0]
    · have y1 : nmT b t 1 = true := nm_1.mpr h29
      refine a_iconst C0 1 dX6_kindHere_32 rfl ?_
      refine a_iret C0 hr dX6_kindHere_33 ?_
      refine rt_ ?_
      unfold kdT
      first
        | rw [if_neg n0, if_neg n1, if_neg n2, if_neg n3, if_neg n4, if_neg n5]
        | rw [if_neg n0, if_neg n1, if_neg n2, if_neg n3, if_neg n4, if_pos y5]
        | rw [if_neg n0, if_neg n1, if_neg n2, if_neg n3, if_pos y4]
        | rw [if_neg n0, if_neg n1, if_neg n2, if_pos y3]
        | rw [if_neg n0, if_neg n1, if_pos y2]
        | rw [if_neg n0, if_pos y1]
        | rw [if_pos y0]
  · have y0 : nmT b t 0 = true := nm_0.mpr h12
    refine a_iconst C0 0 dX6_kindHere_15 rfl ?_
    refine a_iret C0 hr dX6_kindHere_16 ?_
    refine rt_ ?_
    unfold kdT
    first
      | rw [if_neg n0, if_neg n1, if_neg n2, if_neg n3, if_neg n4, if_neg n5]
      | rw [if_neg n0, if_neg n1, if_neg n2, if_neg n3, if_neg n4, if_pos y5]
      | rw [if_neg n0, if_neg n1, if_neg n2, if_neg n3, if_pos y4]
      | rw [if_neg n0, if_neg n1, if_neg n2, if_pos y3]
      | rw [if_neg n0, if_neg n1, if_pos y2]
      | rw [if_neg n0, if_pos y1]
      | rw [if_pos y0]
def lwM (b : RW) (t : Tk) : Int32 := if nmT b t 6 = true then 3 else if nmT b t 7 = true then 4 else if nmT b t 8 = true then 5 else if nmT b t 9 = true then 6 else -1
theorem lw_M {b : RW} {t : Tk} : (lwT b t = -1 ∧ lwM b t = -1) ∨ (∃ j, j < 4 ∧ lwT b t = nI j ∧ lwM b t = nI (3 + j)) := by
  unfold lwT lwM
  split
  · exact Or.inr ⟨0, by decide, rfl, rfl⟩
  · split
    · exact Or.inr ⟨1, by decide, rfl, rfl⟩
    · split
      · exact Or.inr ⟨2, by decide, rfl, rfl⟩
      · split
        · exact Or.inr ⟨3, by decide, rfl, rfl⟩
        · exact Or.inl ⟨rfl, rfl⟩
theorem kd_M {b : RW} {t : Tk} : kdT b t = -1 ∨ ∃ j, j < 6 ∧ kdT b t = nI j := by
  unfold kdT
  split
  · exact Or.inr ⟨0, by decide, rfl⟩
  · split
    · exact Or.inr ⟨1, by decide, rfl⟩
    · split
      · exact Or.inr ⟨2, by decide, rfl⟩
      · split
        · exact Or.inr ⟨3, by decide, rfl⟩
        · split
          · exact Or.inr ⟨4, by decide, rfl⟩
          · split
            · exact Or.inr ⟨5, by decide, rfl⟩
            · exact Or.inl rfl

set_option maxRecDepth 100000 in
set_option maxHeartbeats 4000000 in
theorem c_X6_lawHere (l : Launch) (G : GE) {ad : Nat → Nat} {M : WM} {O S : RW} {X : WM} {b : RW} {n : Nat} {t : Tk} (h0 : BT O X b n) (hk : MTK O b n t) (hM : M = mkM O S X)  : CT l G yX6_lawHere cX6_lawHere 1 (some .int) 3 [.ref (ad 0)] 14 ad (shM G ad) M (PI (fun r u => r = lwM b t ∧ u = mkM O S X)) := by
  refine CT.of (own := RX6) rfl rfl (le_b rfl) fun p e s m args below meth c A C0 hr => ?_
  refine AW.lo (ls2 := [(0, _)]) rfl ?_
  subst hM
  refine a_aload_n C0 0 dX6_lawHere_0 rfl rfl ?_
  refine a_iconst C0 3 dX6_lawHere_1 rfl ?_
  refine a_bipush C0 97 dX6_lawHere_2 rfl ?_
  refine a_bipush C0 105 dX6_lawHere_4 rfl ?_
  refine a_bipush C0 114 dX6_lawHere_6 rfl ?_
  refine a_bipush C0 114 dX6_lawHere_8 rfl ?_
  refine a_callV _ 5 C0 EM.refl (c_X6_isName l G (L := 3) h0 hk rfl (by decide) (ch_ rfl) (ch_ rfl) (ch_ rfl) (ch_ rfl) rfl) u_c_X6_isName u_m_X6_94 u_im_X6_isName u_se_X6_isName u_in_X6 hy_X6_isName rfl (lt_b rfl) rfl (hRk rfl) rfl rfl (le_b rfl) dX6_lawHere_10 (k_ro EM.refl ?_)
  refine a_if_eqb C0 18 dX6_lawHere_13 rfl (fun h13 => ?_) (fun h13 => ?_)
  · have n6 : ¬ nmT b t 6 = true := fun q => by
      have q := nm_6.mp q
      exact h13 ⟨q.1, q.2.1, q.2.2.1, q.2.2.2.1, q.2.2.2.2, q.2.2.2.2⟩
    refine a_aload_n C0 0 dX6_lawHere_18 rfl rfl ?_
    refine a_bipush C0 115 dX6_lawHere_19 rfl ?_
    refine a_bipush C0 112 dX6_lawHere_21 rfl ?_
    refine a_bipush C0 105 dX6_lawHere_23 rfl ?_
    refine a_bipush C0 99 dX6_lawHere_25 rfl ?_
    refine a_bipush C0 101 dX6_lawHere_27 rfl ?_
    refine a_callV _ 5 C0 EM.refl (c_X6_isFive l G h0 hk (ch_ rfl) (ch_ rfl) (ch_ rfl) (ch_ rfl) (ch_ rfl) rfl) u_c_X6_isFive u_m_X6_105 u_im_X6_isFive u_se_X6_isFive u_in_X6 hy_X6_isFive rfl (lt_b rfl) rfl (hRk rfl) rfl rfl (le_b rfl) dX6_lawHere_29 (k_ro EM.refl ?_)
    refine a_if_eqb C0 37 dX6_lawHere_32 rfl (fun h32 => ?_) (fun h32 => ?_)
    · have n7 : ¬ nmT b t 7 = true := fun q => h32 (nm_7.mp q)
      refine a_aload_n C0 0 dX6_lawHere_37 rfl rfl ?_
      refine a_bipush C0 99 dX6_lawHere_38 rfl ?_
      refine a_bipush C0 114 dX6_lawHere_40 rfl ?_
      refine a_bipush C0 117 dX6_lawHere_42 rfl ?_
      refine a_bipush C0 115 dX6_lawHere_44 rfl ?_
      refine a_bipush C0 116 dX6_lawHere_46 rfl ?_
      refine a_callV _ 5 C0 EM.refl (c_X6_isFive l G h0 hk (ch_ rfl) (ch_ rfl) (ch_ rfl) (ch_ rfl) (ch_ rfl) rfl) u_c_X6_isFive u_m_X6_105 u_im_X6_isFive u_se_X6_isFive u_in_X6 hy_X6_isFive rfl (lt_b rfl) rfl (hRk rfl) rfl rfl (le_b rfl) dX6_lawHere_48 (k_ro EM.refl ?_)
      refine a_if_eqb C0 56 dX6_lawHere_51 rfl (fun h51 => ?_) (fun h51 => ?_)
      · have n8 : ¬ nmT b t 8 = true := fun q => h51 (nm_8.mp q)
        refine a_aload_n C0 0 dX6_lawHere_56 rfl rfl ?_
        refine a_bipush C0 7 dX6_lawHere_57 rfl ?_
        refine a_bipush C0 109 dX6_lawHere_59 rfl ?_
        refine a_bipush C0 101 dX6_lawHere_61 rfl ?_
        refine a_bipush C0 101 dX6_lawHere_63 rfl ?_
        refine a_bipush C0 103 dX6_lawHere_65 rfl ?_
        refine a_callV _ 5 C0 EM.refl (c_X6_isName l G (L := 7) h0 hk rfl (by decide) (ch_ rfl) (ch_ rfl) (ch_ rfl) (ch_ rfl) rfl) u_c_X6_isName u_m_X6_94 u_im_X6_isName u_se_X6_isName u_in_X6 hy_X6_isName rfl (lt_b rfl) rfl (hRk rfl) rfl rfl (le_b rfl) dX6_lawHere_67 (k_ro EM.refl ?_)
        refine a_if_eqb C0 92 dX6_lawHere_70 rfl (fun h70 => ?_) (fun h70 => ?_)
        · have n9 : ¬ nmT b t 9 = true := fun q => by
            have q := nm_9.mp q
            first
              | exact h70 ⟨q.1, q.2.1, q.2.2.1, q.2.2.2.1, q.2.2.2.2.1, q.2.2.2.2.2.2.2.2⟩
              | exact h84 ⟨q.2.2.2.2.2.1, q.2.2.2.2.2.2.1, q.2.2.2.2.2.2.2.1⟩
          refine a_iconst C0 (-1) dX6_lawHere_92 rfl ?_
          refine a_iret C0 hr dX6_lawHere_93 ?_
          refine rt_ ?_
          unfold lwM
          first
            | rw [if_neg n6, if_neg n7, if_neg n8, if_neg n9]
            | rw [if_neg n6, if_neg n7, if_neg n8, if_pos y9]
            | rw [if_neg n6, if_neg n7, if_pos y8]
            | rw [if_neg n6, if_pos y7]
            | rw [if_pos y6]
        · refine a_aload_n C0 0 dX6_lawHere_73 rfl rfl ?_
          refine a_iconst C0 3 dX6_lawHere_74 rfl ?_
          refine a_bipush C0 116 dX6_lawHere_75 rfl ?_
          refine a_bipush C0 105 dX6_lawHere_77 rfl ?_
          refine a_bipush C0 110 dX6_lawHere_79 rfl ?_
          
          refine a_callV _ 4 C0 EM.refl (c_X6_isSame l G (j := 3) h0 hk rfl (by have := h70.2.1; have := hk.le; omega) (ch_ rfl) (ch_ rfl) (ch_ rfl) rfl) u_c_X6_isSame u_m_X6_102 u_im_X6_isSame u_se_X6_isSame u_in_X6 hy_X6_isSame rfl (lt_b rfl) rfl (hRk rfl) rfl rfl (le_b rfl) dX6_lawHere_81 (k_ro EM.refl ?_)
          refine a_if_eqb C0 92 dX6_lawHere_84 rfl (fun h84 => ?_) (fun h84 => ?_)
          · have n9 : ¬ nmT b t 9 = true := fun q => by
              have q := nm_9.mp q
              first
                | exact h70 ⟨q.1, q.2.1, q.2.2.1, q.2.2.2.1, q.2.2.2.2.1, q.2.2.2.2.2.2.2.2⟩
                | exact h84 ⟨q.2.2.2.2.2.1, q.2.2.2.2.2.2.1, q.2.2.2.2.2.2.2.1⟩
            refine a_iconst C0 (-1) dX6_lawHere_92 rfl ?_
            refine a_iret C0 hr dX6_lawHere_93 ?_
            refine rt_ ?_
            unfold lwM
            first
              | rw [if_neg n6, if_neg n7, if_neg n8, if_neg n9]
              | rw [if_neg n6, if_neg n7, if_neg n8, if_pos y9]
              | rw [if_neg n6, if_neg n7, if_pos y8]
              | rw [if_neg n6, if_pos y7]
              | rw [if_pos y6]
          · have y9 : nmT b t 9 = true := nm_9.mpr ⟨h70.1, h70.2.1, h70.2.2.1, h70.2.2.2.1, h70.2.2.2.2.1, h84.1, h84.2.1, h84.2.2, h70.2.2.2.2.2⟩
            refine a_bipush C0 6 dX6_lawHere_87 rfl ?_
            refine a_goto C0 93 dX6_lawHere_89 rfl ?_
            refine a_iret C0 hr dX6_lawHere_93 ?_
            refine rt_ ?_
            unfold lwM
            first
              | rw [if_neg n6, if_neg n7, if_neg n8, if_neg n9]
              | rw [if_neg n6, if_neg n7, if_neg n8, if_pos y9]
              | rw [if_neg n6, if_neg n7, if_pos y8]
              | rw [if_neg n6, if_pos y7]
              | rw [if_pos y6]
      · have y8 : nmT b t 8 = true := nm_8.mpr h51
        refine a_iconst C0 5 dX6_lawHere_54 rfl ?_
        refine a_iret C0 hr dX6_lawHere_55 ?_
        refine rt_ ?_
        unfold lwM
        first
          | rw [if_neg n6, if_neg n7, if_neg n8, if_neg n9]
          | rw [if_neg n6, if_neg n7, if_neg n8, if_pos y9]
          | rw [if_neg n6, if_neg n7, if_pos y8]
          | rw [if_neg n6, if_pos y7]
          | rw [if_pos y6]
    · have y7 : nmT b t 7 = true := nm_7.mpr h32
      refine a_iconst C0 4 dX6_lawHere_35 rfl ?_
      refine a_iret C0 hr dX6_lawHere_36 ?_
      refine rt_ ?_
      unfold lwM
      first
        | rw [if_neg n6, if_neg n7, if_neg n8, if_neg n9]
        | rw [if_neg n6, if_neg n7, if_neg n8, if_pos y9]
        | rw [if_neg n6, if_neg n7, if_pos y8]
        | rw [if_neg n6, if_pos y7]
        | rw [if_pos y6]
  · have y6 : nmT b t 6 = true := nm_6.mpr ⟨h13.1, h13.2.1, h13.2.2.1, h13.2.2.2.1, h13.2.2.2.2.1⟩
    refine a_iconst C0 3 dX6_lawHere_16 rfl ?_
    refine a_iret C0 hr dX6_lawHere_17 ?_
    refine rt_ ?_
    unfold lwM
    first
      | rw [if_neg n6, if_neg n7, if_neg n8, if_neg n9]
      | rw [if_neg n6, if_neg n7, if_neg n8, if_pos y9]
      | rw [if_neg n6, if_neg n7, if_pos y8]
      | rw [if_neg n6, if_pos y7]
      | rw [if_pos y6]
