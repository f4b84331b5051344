
def EqW (O O1 : RW) : Prop := ∀ j, j < 7 ∨ 11 < j → O1 j = O j
theorem EqW.refl (O : RW) : EqW O O := fun _ _ => rfl
theorem EqW.up {O O1 : RW} {i : Nat} {v : Int32} (h : EqW O O1) (h7 : 7 ≤ i) (h10 : i ≤ 11) : EqW O (upS O1 i v) := fun j hj => (up_ne (by omega)).trans (h j hj)
theorem EqW.trans {O O1 O2 : RW} (h : EqW O O1) (k : EqW O1 O2) : EqW O O2 := fun j hj => (k j hj).trans (h j hj)
theorem EqT.w {O O1 : RW} (h : EqT O O1) : EqW O O1 := fun j hj => h j (by omega)
theorem BT.eqW {O O1 : RW} {X : WM} {b : RW} {n : Nat} (h : BT O X b n) (e : EqW O O1) : BT O1 X b n := ⟨(e 6 (by omega)).trans h.1, h.2⟩
/-- a reading so far: R.1 whether it is right, R.2.1 the Parish told, R.2.2 the token at which it stands (or failed) -/
def MR (O S : RW) (b : RW) (n : Nat) (R : RS) : Prop := (R.1 = true → O 11 = 0 ∧ MTK O b n R.2.2 ∧ ∃ T, RP R.2.1 S T 0) ∧ (¬ R.1 = true → O 11 = 1) ∧ O 8 = nI R.2.2.2.1 ∧ R.2.2.2.1 ≤ n
theorem MR.right {O S b : RW} {n : Nat} {P : WM} {t : Tk} {T : Nat} (h : O 11 = 0) (k : MTK O b n t) (r : RP P S T 0) : MR O S b n (true, P, t) := ⟨fun _ => ⟨h, k, T, r⟩, fun q => absurd rfl q, k.2.1, k.le.2.1⟩
theorem MR.ok {O S b : RW} {n : Nat} {R : RS} (h : MR O S b n R) : O 11 = 0 ↔ R.1 = true := by
  constructor
  · intro q
    by_cases c : R.1 = true
    · exact c
    · have z := h.2.1 c
      rw [q] at z
      exact absurd z (by decide)
  · exact fun q => (h.1 q).1
theorem MR.w {O S S2 b : RW} {n : Nat} {R R2 : RS} (h : MR O S b n R) (h1 : ¬ R.1 = true) (h2 : ¬ R2.1 = true) (e : R2.2.2 = R.2.2) : MR O S2 b n R2 := ⟨fun q => absurd q h2, fun _ => h.2.1 h1, by rw [e]; exact h.2.2⟩
/-- one more need -/
def ndR (b : RW) (n : Nat) (R : RS) (q : Prop) [Decidable q] : RS := if R.1 = true ∧ q then (true, R.2.1, tk b n R.2.2.2.2) else (false, R.2.1, R.2.2)
theorem ndR_c {b : RW} {n : Nat} {R : RS} {p q : Prop} [Decidable p] [Decidable q] (h : R.1 = true → (p ↔ q)) : ndR b n R p = ndR b n R q := by
  unfold ndR
  by_cases c : R.1 = true
  · by_cases d : p
    · rw [if_pos ⟨c, d⟩, if_pos ⟨c, (h c).mp d⟩]
    · rw [if_neg fun z => d z.2, if_neg fun z => d ((h c).mpr z.2)]
  · rw [if_neg fun z => c z.1, if_neg fun z => c z.1]
theorem ndR_t {b : RW} {n : Nat} {R : RS} {q : Prop} [Decidable q] (h : (ndR b n R q).1 = true) : R.1 = true ∧ q ∧ ndR b n R q = (true, R.2.1, tk b n R.2.2.2.2) := by
  unfold ndR at h ⊢
  by_cases c : R.1 = true ∧ q
  · rw [if_pos c]
    exact ⟨c.1, c.2, rfl⟩
  · rw [if_neg c] at h
    exact absurd h Bool.false_ne_true
theorem ndR_y {b : RW} {n : Nat} {P : WM} {t : Tk} {q : Prop} [Decidable q] (h : q) : ndR b n (true, P, t) q = (true, P, tk b n t.2.2) := if_pos ⟨rfl, h⟩
theorem ndR_n {b : RW} {n : Nat} {R : RS} {q : Prop} [Decidable q] (h : ¬ q) : ndR b n R q = (false, R.2.1, R.2.2) := if_neg fun z => h z.2
theorem ndR_f {b : RW} {n : Nat} {R : RS} {q : Prop} [Decidable q] (h : ¬ R.1 = true) : ndR b n R q = (false, R.2.1, R.2.2) := if_neg fun z => h z.1

set_option maxRecDepth 100000 in
set_option maxHeartbeats 4000000 in
theorem c_X6_needs (l : Launch) (G : GE) {ad : Nat → Nat} {M : WM} {O S : RW} {X : WM} {b : RW} {n : Nat} {R : RS} {q : Prop} [Decidable q] {z : Int32} (hz : R.1 = true → z = bI q) (h0 : BT O X b n) (h1 : MR O S b n R) (hM : M = mkM O S X)  : CT l G yX6_needs cX6_needs 2 none 2 [.ref (ad 0), .int z] 14 ad (shM G ad) M (PV (fun u => ∃ O', u = mkM O' S X ∧ EqW O O' ∧ MR O' S b n (ndR b n R q))) := by
  refine CT.of (own := RX6) rfl rfl (le_b rfl) fun p e s m args below meth c A C0 hr => ?_
  refine AW.lo (ls2 := [(0, _), (1, _)]) rfl ?_
  subst hM
  refine a_aload_n C0 0 dX6_needs_0 rfl rfl ?_
  refine a_aload_n C0 0 dX6_needs_1 rfl rfl ?_
  refine g_X6_87 C0 (lt_b rfl) rfl rfl dX6_needs_2 ?_
  refine a_if_ne C0 12 dX6_needs_5 rfl (fun h5 => ?_) (fun h5 => ?_)
  · refine a_iconst C0 1 dX6_needs_12 rfl ?_
    refine a_goto C0 17 dX6_needs_13 rfl ?_
    refine p_X6_87 C0 (lt_b rfl) rfl (lt_b rfl) rfl rfl rfl dX6_needs_17 ?_
    rw [mkM_O]
    refine a_aload_n C0 0 dX6_needs_20 rfl rfl ?_
    refine g_X6_87 C0 (lt_b rfl) rfl rfl dX6_needs_21 ?_
    refine a_if_ne C0 31 dX6_needs_24 rfl (fun h24 => ?_) (fun h24 => ?_)
    · refine a_vret C0 hr dX6_needs_31 ?_
      first
        | (refine ⟨rfl, _, rfl, ((EqW.refl O).up (by decide) (by decide)).trans eT.w, ?_⟩
           rw [show ndR b n R q = _ from if_pos ⟨hR, hq⟩]
           exact MR.right g2 hk gr)
        | (refine ⟨rfl, _, rfl, (EqW.refl O).up (by decide) (by decide), ?_⟩
           have hn : ¬ (R.1 = true ∧ q) := fun c => by
             first
               | exact h5 (h1.ok.mpr c.1)
               | (have e := hz c.1
                  rw [bI_t c.2] at e
                  exact absurd (e.symm.trans h9) (by decide))
           rw [show ndR b n R q = (false, R.2.1, R.2.2) from if_neg hn]
           exact ⟨fun c => absurd c Bool.false_ne_true, fun _ => rfl, h1.2.2⟩)
    · exact absurd (show (1 : Int32) = 0 from h24) (by decide)
  · refine a_iload_n C0 1 dX6_needs_8 rfl rfl ?_
    refine a_if_ne C0 16 dX6_needs_9 rfl (fun h9 => ?_) (fun h9 => ?_)
    · refine a_iconst C0 0 dX6_needs_16 rfl ?_
      refine p_X6_87 C0 (lt_b rfl) rfl (lt_b rfl) rfl rfl rfl dX6_needs_17 ?_
      rw [mkM_O]
      refine a_aload_n C0 0 dX6_needs_20 rfl rfl ?_
      refine g_X6_87 C0 (lt_b rfl) rfl rfl dX6_needs_21 ?_
      refine a_if_ne C0 31 dX6_needs_24 rfl (fun h24 => ?_) (fun h24 => ?_)
      · exact (h24 rfl).elim
      · refine a_aload_n C0 0 dX6_needs_27 rfl rfl ?_
        have hR : R.1 = true := h1.ok.mp h5
        have hq : q := by
          have e := hz hR
          by_cases c : q
          · exact c
          · rw [bI_f c] at e
            exact absurd e h9
        obtain ⟨g11, gk, T, gr⟩ := h1.1 hR
        have b1 : BT (upS O 11 0) X b n := ⟨h0.1, h0.2⟩
        have g9 : upS O 11 0 9 = nI R.2.2.2.2 := gk.2.2.1
        refine a_callV _ 0 C0 EM.refl (c_X6_nextToken l G b1 g9 gk.le.2.2.2.1 rfl) u_c_X6_nextToken u_m_X6_91 u_im_X6_nextToken u_se_X6_nextToken u_in_X6 hy_X6_nextToken rfl (lt_b rfl) rfl (hRk rfl) rfl rfl (le_b rfl) dX6_needs_28 (k_v fun u28 q28 => ?_)
        obtain ⟨O2, rfl, eT, hk⟩ := q28
        have g2 : O2 11 = 0 := eT 11 (by omega)
        refine a_vret C0 hr dX6_needs_31 ?_
        first
          | (refine ⟨rfl, _, rfl, ((EqW.refl O).up (by decide) (by decide)).trans eT.w, ?_⟩
             rw [show ndR b n R q = _ from if_pos ⟨hR, hq⟩]
             exact MR.right g2 hk gr)
          | (refine ⟨rfl, _, rfl, (EqW.refl O).up (by decide) (by decide), ?_⟩
             have hn : ¬ (R.1 = true ∧ q) := fun c => by
               first
                 | exact h5 (h1.ok.mpr c.1)
                 | (have e := hz c.1
                    rw [bI_t c.2] at e
                    exact absurd (e.symm.trans h9) (by decide))
             rw [show ndR b n R q = (false, R.2.1, R.2.2) from if_neg hn]
             exact ⟨fun c => absurd c Bool.false_ne_true, fun _ => rfl, h1.2.2⟩)
    · refine a_iconst C0 1 dX6_needs_12 rfl ?_
      refine a_goto C0 17 dX6_needs_13 rfl ?_
      refine p_X6_87 C0 (lt_b rfl) rfl (lt_b rfl) rfl rfl rfl dX6_needs_17 ?_
      rw [mkM_O]
      refine a_aload_n C0 0 dX6_needs_20 rfl rfl ?_
      refine g_X6_87 C0 (lt_b rfl) rfl rfl dX6_needs_21 ?_
      refine a_if_ne C0 31 dX6_needs_24 rfl (fun h24 => ?_) (fun h24 => ?_)
      · refine a_vret C0 hr dX6_needs_31 ?_
        first
          | (refine ⟨rfl, _, rfl, ((EqW.refl O).up (by decide) (by decide)).trans eT.w, ?_⟩
             rw [show ndR b n R q = _ from if_pos ⟨hR, hq⟩]
             exact MR.right g2 hk gr)
          | (refine ⟨rfl, _, rfl, (EqW.refl O).up (by decide) (by decide), ?_⟩
             have hn : ¬ (R.1 = true ∧ q) := fun c => by
               first
                 | exact h5 (h1.ok.mpr c.1)
                 | (have e := hz c.1
                    rw [bI_t c.2] at e
                    exact absurd (e.symm.trans h9) (by decide))
             rw [show ndR b n R q = (false, R.2.1, R.2.2) from if_neg hn]
             exact ⟨fun c => absurd c Bool.false_ne_true, fun _ => rfl, h1.2.2⟩)
      · exact absurd (show (1 : Int32) = 0 from h24) (by decide)
set_option maxRecDepth 100000 in
set_option maxHeartbeats 4000000 in
theorem c_X6_isTwo (l : Launch) (G : GE) {ad : Nat → Nat} {M : WM} {O S : RW} {X : WM} {b : RW} {n : Nat} {R : RS} {a1 a2 : Int32} (h0 : BT O X b n) (h1 : MR O S b n R) (c1 : Ch a1) (c2 : Ch a2) (hM : M = mkM O S X)  : CT l G yX6_isTwo cX6_isTwo 3 (some .boolean) 1 [.ref (ad 0), .int a1, .int a2] 14 ad (shM G ad) M (PI (fun r u => (R.1 = true → r = bI (R.2.2.1 = 1 ∧ R.2.2.2.2 - R.2.2.2.1 = 2 ∧ b R.2.2.2.1 = a1 ∧ b (R.2.2.2.1 + 1) = a2)) ∧ u = mkM O S X)) := by
  refine CT.of (own := RX6) rfl rfl (le_b rfl) fun p e s m args below meth c A C0 hr => ?_
  refine AW.lo (ls2 := [(0, _), (1, _), (2, _)]) rfl ?_
  subst hM
  obtain ⟨h6, hn2, hb⟩ := id h0
  have g8 := h1.2.2.1
  have gs := h1.2.2.2
  have kk : R.1 = true → (O 7 = 1 ↔ R.2.2.1 = 1) ∧ (O 9 - O 8 = 2 ↔ R.2.2.2.2 - R.2.2.2.1 = 2) ∧ R.2.2.2.1 ≤ R.2.2.2.2 ∧ R.2.2.2.2 ≤ n := fun c => by
    have hk := (h1.1 c).2.1
    have z := hk.le
    refine ⟨?_, ln_ (L := 2) hk.2.1 hk.2.2.1 z.2.2.1 (by omega) (by decide), z.2.2.1, z.2.2.2.1⟩
    rw [hk.1]
    exact nI_eq (b := 1) (by omega) (by decide)
  refine a_aload_n C0 0 dX6_isTwo_0 rfl rfl ?_
  refine g_X6_81 C0 (lt_b rfl) rfl rfl dX6_isTwo_1 ?_
  refine a_iconst C0 1 dX6_isTwo_4 rfl ?_
  refine a_icmp_ne C0 51 dX6_isTwo_5 rfl (fun h5 => ?_) (fun h5 => ?_)
  · refine a_iconst C0 0 dX6_isTwo_51 rfl ?_
    refine a_zret C0 hr rfl dX6_isTwo_52 ?_
    refine ⟨_, rfl, fun c => ?_, rfl⟩
    obtain ⟨k1, k2, k3, k4⟩ := kk c
    first
      | (have e2 := k2.mp h18
         exact (bI_t ⟨k1.mp h5, e2, (by_ hb (by omega) c1).mp h30, (by_ hb (by omega) c2).mp h44⟩).symm)
      | exact (bI_f fun q => h44 ((by_ hb (by have := q.2.1; omega) c2).mpr q.2.2.2)).symm
      | exact (bI_f fun q => h30 ((by_ hb (by have := q.2.1; omega) c1).mpr q.2.2.1)).symm
      | exact (bI_f fun q => h18 (k2.mpr q.2.1)).symm
      | exact (bI_f fun q => h5 (k1.mpr q.1)).symm
  · refine a_aload_n C0 0 dX6_isTwo_8 rfl rfl ?_
    refine g_X6_64 C0 (lt_b rfl) rfl rfl dX6_isTwo_9 ?_
    refine a_aload_n C0 0 dX6_isTwo_12 rfl rfl ?_
    refine g_X6_67 C0 (lt_b rfl) rfl rfl dX6_isTwo_13 ?_
    refine a_isub C0 dX6_isTwo_16 ?_
    refine a_iconst C0 2 dX6_isTwo_17 rfl ?_
    refine a_icmp_ne C0 51 dX6_isTwo_18 rfl (fun h18 => ?_) (fun h18 => ?_)
    · refine a_iconst C0 0 dX6_isTwo_51 rfl ?_
      refine a_zret C0 hr rfl dX6_isTwo_52 ?_
      refine ⟨_, rfl, fun c => ?_, rfl⟩
      obtain ⟨k1, k2, k3, k4⟩ := kk c
      first
        | (have e2 := k2.mp h18
           exact (bI_t ⟨k1.mp h5, e2, (by_ hb (by omega) c1).mp h30, (by_ hb (by omega) c2).mp h44⟩).symm)
        | exact (bI_f fun q => h44 ((by_ hb (by have := q.2.1; omega) c2).mpr q.2.2.2)).symm
        | exact (bI_f fun q => h30 ((by_ hb (by have := q.2.1; omega) c1).mpr q.2.2.1)).symm
        | exact (bI_f fun q => h18 (k2.mpr q.2.1)).symm
        | exact (bI_f fun q => h5 (k1.mpr q.1)).symm
    · refine a_aload_n C0 0 dX6_isTwo_21 rfl rfl ?_
      refine a_aload_n C0 0 dX6_isTwo_22 rfl rfl ?_
      refine g_X6_67 C0 (lt_b rfl) rfl rfl dX6_isTwo_23 ?_
      refine a_callV _ 1 C0 EM.refl (c_X6_byteAt l G h6 hn2 g8 (by omega) rfl) u_c_X6_byteAt u_m_X6_70 u_im_X6_byteAt u_se_X6_byteAt u_in_X6 hy_X6_byteAt rfl (lt_b rfl) rfl (hRk rfl) rfl rfl (le_b rfl) dX6_isTwo_26 (k_ro EM.refl ?_)
      refine a_iload_n C0 1 dX6_isTwo_29 rfl rfl ?_
      refine a_icmp_ne C0 51 dX6_isTwo_30 rfl (fun h30 => ?_) (fun h30 => ?_)
      · refine a_iconst C0 0 dX6_isTwo_51 rfl ?_
        refine a_zret C0 hr rfl dX6_isTwo_52 ?_
        refine ⟨_, rfl, fun c => ?_, rfl⟩
        obtain ⟨k1, k2, k3, k4⟩ := kk c
        first
          | (have e2 := k2.mp h18
             exact (bI_t ⟨k1.mp h5, e2, (by_ hb (by omega) c1).mp h30, (by_ hb (by omega) c2).mp h44⟩).symm)
          | exact (bI_f fun q => h44 ((by_ hb (by have := q.2.1; omega) c2).mpr q.2.2.2)).symm
          | exact (bI_f fun q => h30 ((by_ hb (by have := q.2.1; omega) c1).mpr q.2.2.1)).symm
          | exact (bI_f fun q => h18 (k2.mpr q.2.1)).symm
          | exact (bI_f fun q => h5 (k1.mpr q.1)).symm
      · refine a_aload_n C0 0 dX6_isTwo_33 rfl rfl ?_
        refine a_aload_n C0 0 dX6_isTwo_34 rfl rfl ?_
        refine g_X6_67 C0 (lt_b rfl) rfl rfl dX6_isTwo_35 ?_
        refine a_iconst C0 1 dX6_isTwo_38 rfl ?_
        refine a_iadd C0 dX6_isTwo_39 ?_
        refine a_callV _ 1 C0 EM.refl (c_X6_byteAt l G (i := R.2.2.2.1 + 1) h6 hn2 (show O 8 + 1 = _ by rw [g8, nI_1]) (by omega) rfl) u_c_X6_byteAt u_m_X6_70 u_im_X6_byteAt u_se_X6_byteAt u_in_X6 hy_X6_byteAt rfl (lt_b rfl) rfl (hRk rfl) rfl rfl (le_b rfl) dX6_isTwo_40 (k_ro EM.refl ?_)
        refine a_iload_n C0 2 dX6_isTwo_43 rfl rfl ?_
        refine a_icmp_ne C0 51 dX6_isTwo_44 rfl (fun h44 => ?_) (fun h44 => ?_)
        · refine a_iconst C0 0 dX6_isTwo_51 rfl ?_
          refine a_zret C0 hr rfl dX6_isTwo_52 ?_
          refine ⟨_, rfl, fun c => ?_, rfl⟩
          obtain ⟨k1, k2, k3, k4⟩ := kk c
          first
            | (have e2 := k2.mp h18
               exact (bI_t ⟨k1.mp h5, e2, (by_ hb (by omega) c1).mp h30, (by_ hb (by omega) c2).mp h44⟩).symm)
            | exact (bI_f fun q => h44 ((by_ hb (by have := q.2.1; omega) c2).mpr q.2.2.2)).symm
            | exact (bI_f fun q => h30 ((by_ hb (by have := q.2.1; omega) c1).mpr q.2.2.1)).symm
            | exact (bI_f fun q => h18 (k2.mpr q.2.1)).symm
            | exact (bI_f fun q => h5 (k1.mpr q.1)).symm
        · refine a_iconst C0 1 dX6_isTwo_47 rfl ?_
          refine a_goto C0 52 dX6_isTwo_48 rfl ?_
          refine a_zret C0 hr rfl dX6_isTwo_52 ?_
          refine ⟨_, rfl, fun c => ?_, rfl⟩
          obtain ⟨k1, k2, k3, k4⟩ := kk c
          first
            | (have e2 := k2.mp h18
               exact (bI_t ⟨k1.mp h5, e2, (by_ hb (by omega) c1).mp h30, (by_ hb (by omega) c2).mp h44⟩).symm)
            | exact (bI_f fun q => h44 ((by_ hb (by have := q.2.1; omega) c2).mpr q.2.2.2)).symm
            | exact (bI_f fun q => h30 ((by_ hb (by have := q.2.1; omega) c1).mpr q.2.2.1)).symm
            | exact (bI_f fun q => h18 (k2.mpr q.2.1)).symm
            | exact (bI_f fun q => h5 (k1.mpr q.1)).symm

theorem nu_ {O S b : RW} {n : Nat} {R : RS} (h1 : MR O S b n R) (hn : n ≤ 200) {m : Int32} (c : R.1 = true) : (O 7 = 2 ↔ R.2.2.1 = 2) ∧ (O 9 - O 8 ≤ 3 ↔ R.2.2.2.2 - R.2.2.2.1 ≤ 3) ∧ (R.2.2.1 = 2 → R.2.2.2.2 - R.2.2.2.1 ≤ 3 → O 10 = numT b R.2.2) := by
  have hk := (h1.1 c).2.1
  have z := hk.le
  refine ⟨?_, ?_, hk.2.2.2.1⟩
  · rw [hk.1]
    exact nI_eq (b := 2) (by omega) (by decide)
  · rw [hk.2.1, hk.2.2.1, pk_sub z.2.2.1]
    exact nI_leI (b := 3) (by omega) (by decide)
theorem numP {O b : RW} {n : Nat} {t : Tk} (h : MTK O b n t) {v : Int32} (hv : nuT b t v) : ∃ r, r ≤ 2000000 ∧ numT b t = nI r := by
  obtain ⟨-, -, -, -, e0, he, e⟩ := h
  refine nmB_N b _ _ 0 hv.2.1 (by omega) fun i h1 h2 => ?_
  have hd := tk_dig (b := b) (n := n) (e0 := e0) (by rw [← e]; exact hv.1)
  rw [← e] at hd
  have hle := (tk_le (b := b) he).2.2.2.1
  rw [← e] at hle
  exact hd i h1 (by omega)
theorem numI {O b : RW} {n : Nat} {t : Tk} (h : MTK O b n t) {k : Nat} (hk : k < 1000) (hv : nuT b t (nI k)) : IX (numT b t) (ix (numT b t)) (k + 1) := by
  obtain ⟨r, hr, e⟩ := numP h hv
  have q := hv.2.2
  rw [e] at q ⊢
  exact IX.v (vp_in_nI (by have := (nI_leI (b := k) (by omega) (by omega)).mp q; omega) (by omega))
/-- a number that comes to a place -/
def nuR (b : RW) (n : Nat) (R : RS) (m : Int32) (P' : WM) : RS := if R.1 = true ∧ nuT b R.2.2 m then (true, P', tk b n R.2.2.2.2) else (false, R.2.1, R.2.2)

set_option maxRecDepth 100000 in
set_option maxHeartbeats 4000000 in
theorem c_X6_numberTo (l : Launch) (G : GE) {ad : Nat → Nat} {M : WM} {O S : RW} {X : WM} {b : RW} {n : Nat} {R : RS} {x mx : Int32} {j : Nat} {P' : WM} (h0 : BT O X b n) (h1 : MR O S b n R) (hx : R.1 = true → IX x j 63) (hP : R.1 = true → nuT b R.2.2 mx → ∃ T, RP P' (upS S j (numT b R.2.2)) T 0) (hM : M = mkM O S X)  : CT l G yX6_numberTo cX6_numberTo 4 none 3 [.ref (ad 0), .int x, .int mx] 14 ad (shM G ad) M (PV (fun u => ∃ O' S', u = mkM O' S' X ∧ EqW O O' ∧ MR O' S' b n (nuR b n R mx P'))) := by
  refine CT.of (own := RX6) rfl rfl (le_b rfl) fun p e s m args below meth c A C0 hr => ?_
  refine AW.lo (ls2 := [(0, _), (1, _), (2, _)]) rfl ?_
  subst hM
  have hN := fun c => nu_ (m := mx) h1 h0.2.1 c
  refine a_aload_n C0 0 dX6_numberTo_0 rfl rfl ?_
  refine g_X6_81 C0 (lt_b rfl) rfl rfl dX6_numberTo_1 ?_
  refine a_iconst C0 2 dX6_numberTo_4 rfl ?_
  refine a_icmp_ne C0 33 dX6_numberTo_5 rfl (fun h5 => ?_) (fun h5 => ?_)
  · refine a_iconst C0 0 dX6_numberTo_33 rfl ?_
    refine a_istore_n (ls2 := [(3, _), (0, _), (1, _), (2, _)]) C0 dX6_numberTo_34 rfl (lt_b rfl) rfl ?_
    have hnu : R.1 = true → ((O 7 = 2 ∧ O 9 - O 8 ≤ 3 ∧ O 10 ≤ mx) ↔ nuT b R.2.2 mx) := fun c => by
      obtain ⟨a1, a2, a3⟩ := hN c
      constructor
      · rintro ⟨b1, b2, b3⟩
        have c1 := a1.mp b1
        have c2 := a2.mp b2
        exact ⟨c1, c2, by rw [← a3 c1 c2]; exact b3⟩
      · rintro ⟨b1, b2, b3⟩
        exact ⟨a1.mpr b1, a2.mpr b2, by rw [a3 b1 b2]; exact b3⟩
    refine a_iload_n C0 0 dX6_numberTo_35 rfl rfl ?_
    refine a_if_eq C0 56 dX6_numberTo_36 rfl (fun h36 => ?_) (fun h36 => ?_)
    · first
        | (rw [mkM_S, show mkM O S X 0 10 = numT b R.2.2 from (hN hR).2.2 hyes.1 hyes.2.1]
           have h2 : MR O (upS S j (numT b R.2.2)) b n (true, P', R.2.2) := MR.right (h1.1 hR).1 (h1.1 hR).2.1 gr
           have hz : (true, P', R.2.2).1 = true → (1 : Int32) = bI True := fun _ => rfl)
        | (have hw := h43
           have h2 : MR O S b n R := h1
           have hz : R.1 = true → (1 : Int32) = bI True := fun _ => rfl)
        | (have h2 : MR O S b n R := h1
           have hno : R.1 = true → ¬ nuT b R.2.2 mx := fun c q => by
             have z := (hnu c).mpr q
             first
               | exact h5 z.1
               | exact absurd z.2.1 (Int32.not_le.mpr h18)
               | exact absurd z.2.2 (Int32.not_le.mpr h26)
           have hz : R.1 = true → (0 : Int32) = bI False := fun _ => rfl)
      refine a_aload_n C0 1 dX6_numberTo_56 rfl rfl ?_
      refine a_iload_n C0 0 dX6_numberTo_57 rfl rfl ?_
      refine a_callV _ 1 C0 EM.refl (c_X6_needs l G hz h0 h2 rfl) u_c_X6_needs u_m_X6_108 u_im_X6_needs u_se_X6_needs u_in_X6 hy_X6_needs rfl (lt_b rfl) rfl (hRk rfl) rfl rfl (le_b rfl) dX6_numberTo_58 (k_v fun u58 q58 => ?_)
      obtain ⟨O2, rfl, eW, h3⟩ := q58
      refine a_vret C0 hr dX6_numberTo_61 ?_
      refine ⟨rfl, O2, _, rfl, eW, ?_⟩
      first
        | (rw [show nuR b n R mx P' = (true, P', tk b n R.2.2.2.2) from if_pos ⟨hR, hyes⟩]
           exact h3)
        | (have hR : ¬ R.1 = true := fun c => h43 (h1.ok.mpr c)
           rw [show nuR b n R mx P' = (false, R.2.1, R.2.2) from if_neg fun c => hR c.1]
           rw [ndR_f hR] at h3
           exact h3)
        | (rw [show nuR b n R mx P' = (false, R.2.1, R.2.2) from if_neg fun c => hno c.1 c.2]
           rw [ndR_n (by decide)] at h3
           exact h3)
    · exact absurd rfl h36
  · refine a_aload_n C0 0 dX6_numberTo_8 rfl rfl ?_
    refine g_X6_64 C0 (lt_b rfl) rfl rfl dX6_numberTo_9 ?_
    refine a_aload_n C0 0 dX6_numberTo_12 rfl rfl ?_
    refine g_X6_67 C0 (lt_b rfl) rfl rfl dX6_numberTo_13 ?_
    refine a_isub C0 dX6_numberTo_16 ?_
    refine a_iconst C0 3 dX6_numberTo_17 rfl ?_
    refine a_icmp_gt C0 33 dX6_numberTo_18 rfl (fun h18 => ?_) (fun h18 => ?_)
    · refine a_iconst C0 0 dX6_numberTo_33 rfl ?_
      refine a_istore_n (ls2 := [(3, _), (0, _), (1, _), (2, _)]) C0 dX6_numberTo_34 rfl (lt_b rfl) rfl ?_
      have hnu : R.1 = true → ((O 7 = 2 ∧ O 9 - O 8 ≤ 3 ∧ O 10 ≤ mx) ↔ nuT b R.2.2 mx) := fun c => by
        obtain ⟨a1, a2, a3⟩ := hN c
        constructor
        · rintro ⟨b1, b2, b3⟩
          have c1 := a1.mp b1
          have c2 := a2.mp b2
          exact ⟨c1, c2, by rw [← a3 c1 c2]; exact b3⟩
        · rintro ⟨b1, b2, b3⟩
          exact ⟨a1.mpr b1, a2.mpr b2, by rw [a3 b1 b2]; exact b3⟩
      refine a_iload_n C0 0 dX6_numberTo_35 rfl rfl ?_
      refine a_if_eq C0 56 dX6_numberTo_36 rfl (fun h36 => ?_) (fun h36 => ?_)
      · first
          | (rw [mkM_S, show mkM O S X 0 10 = numT b R.2.2 from (hN hR).2.2 hyes.1 hyes.2.1]
             have h2 : MR O (upS S j (numT b R.2.2)) b n (true, P', R.2.2) := MR.right (h1.1 hR).1 (h1.1 hR).2.1 gr
             have hz : (true, P', R.2.2).1 = true → (1 : Int32) = bI True := fun _ => rfl)
          | (have hw := h43
             have h2 : MR O S b n R := h1
             have hz : R.1 = true → (1 : Int32) = bI True := fun _ => rfl)
          | (have h2 : MR O S b n R := h1
             have hno : R.1 = true → ¬ nuT b R.2.2 mx := fun c q => by
               have z := (hnu c).mpr q
               first
                 | exact h5 z.1
                 | exact absurd z.2.1 (Int32.not_le.mpr h18)
                 | exact absurd z.2.2 (Int32.not_le.mpr h26)
             have hz : R.1 = true → (0 : Int32) = bI False := fun _ => rfl)
        refine a_aload_n C0 1 dX6_numberTo_56 rfl rfl ?_
        refine a_iload_n C0 0 dX6_numberTo_57 rfl rfl ?_
        refine a_callV _ 1 C0 EM.refl (c_X6_needs l G hz h0 h2 rfl) u_c_X6_needs u_m_X6_108 u_im_X6_needs u_se_X6_needs u_in_X6 hy_X6_needs rfl (lt_b rfl) rfl (hRk rfl) rfl rfl (le_b rfl) dX6_numberTo_58 (k_v fun u58 q58 => ?_)
        obtain ⟨O2, rfl, eW, h3⟩ := q58
        refine a_vret C0 hr dX6_numberTo_61 ?_
        refine ⟨rfl, O2, _, rfl, eW, ?_⟩
        first
          | (rw [show nuR b n R mx P' = (true, P', tk b n R.2.2.2.2) from if_pos ⟨hR, hyes⟩]
             exact h3)
          | (have hR : ¬ R.1 = true := fun c => h43 (h1.ok.mpr c)
             rw [show nuR b n R mx P' = (false, R.2.1, R.2.2) from if_neg fun c => hR c.1]
             rw [ndR_f hR] at h3
             exact h3)
          | (rw [show nuR b n R mx P' = (false, R.2.1, R.2.2) from if_neg fun c => hno c.1 c.2]
             rw [ndR_n (by decide)] at h3
             exact h3)
      · exact absurd rfl h36
    · refine a_aload_n C0 0 dX6_numberTo_21 rfl rfl ?_
      refine g_X6_84 C0 (lt_b rfl) rfl rfl dX6_numberTo_22 ?_
      refine a_iload_n C0 2 dX6_numberTo_25 rfl rfl ?_
      refine a_icmp_gt C0 33 dX6_numberTo_26 rfl (fun h26 => ?_) (fun h26 => ?_)
      · refine a_iconst C0 0 dX6_numberTo_33 rfl ?_
        refine a_istore_n (ls2 := [(3, _), (0, _), (1, _), (2, _)]) C0 dX6_numberTo_34 rfl (lt_b rfl) rfl ?_
        have hnu : R.1 = true → ((O 7 = 2 ∧ O 9 - O 8 ≤ 3 ∧ O 10 ≤ mx) ↔ nuT b R.2.2 mx) := fun c => by
          obtain ⟨a1, a2, a3⟩ := hN c
          constructor
          · rintro ⟨b1, b2, b3⟩
            have c1 := a1.mp b1
            have c2 := a2.mp b2
            exact ⟨c1, c2, by rw [← a3 c1 c2]; exact b3⟩
          · rintro ⟨b1, b2, b3⟩
            exact ⟨a1.mpr b1, a2.mpr b2, by rw [a3 b1 b2]; exact b3⟩
        refine a_iload_n C0 0 dX6_numberTo_35 rfl rfl ?_
        refine a_if_eq C0 56 dX6_numberTo_36 rfl (fun h36 => ?_) (fun h36 => ?_)
        · first
            | (rw [mkM_S, show mkM O S X 0 10 = numT b R.2.2 from (hN hR).2.2 hyes.1 hyes.2.1]
               have h2 : MR O (upS S j (numT b R.2.2)) b n (true, P', R.2.2) := MR.right (h1.1 hR).1 (h1.1 hR).2.1 gr
               have hz : (true, P', R.2.2).1 = true → (1 : Int32) = bI True := fun _ => rfl)
            | (have hw := h43
               have h2 : MR O S b n R := h1
               have hz : R.1 = true → (1 : Int32) = bI True := fun _ => rfl)
            | (have h2 : MR O S b n R := h1
               have hno : R.1 = true → ¬ nuT b R.2.2 mx := fun c q => by
                 have z := (hnu c).mpr q
                 first
                   | exact h5 z.1
                   | exact absurd z.2.1 (Int32.not_le.mpr h18)
                   | exact absurd z.2.2 (Int32.not_le.mpr h26)
               have hz : R.1 = true → (0 : Int32) = bI False := fun _ => rfl)
          refine a_aload_n C0 1 dX6_numberTo_56 rfl rfl ?_
          refine a_iload_n C0 0 dX6_numberTo_57 rfl rfl ?_
          refine a_callV _ 1 C0 EM.refl (c_X6_needs l G hz h0 h2 rfl) u_c_X6_needs u_m_X6_108 u_im_X6_needs u_se_X6_needs u_in_X6 hy_X6_needs rfl (lt_b rfl) rfl (hRk rfl) rfl rfl (le_b rfl) dX6_numberTo_58 (k_v fun u58 q58 => ?_)
          obtain ⟨O2, rfl, eW, h3⟩ := q58
          refine a_vret C0 hr dX6_numberTo_61 ?_
          refine ⟨rfl, O2, _, rfl, eW, ?_⟩
          first
            | (rw [show nuR b n R mx P' = (true, P', tk b n R.2.2.2.2) from if_pos ⟨hR, hyes⟩]
               exact h3)
            | (have hR : ¬ R.1 = true := fun c => h43 (h1.ok.mpr c)
               rw [show nuR b n R mx P' = (false, R.2.1, R.2.2) from if_neg fun c => hR c.1]
               rw [ndR_f hR] at h3
               exact h3)
            | (rw [show nuR b n R mx P' = (false, R.2.1, R.2.2) from if_neg fun c => hno c.1 c.2]
               rw [ndR_n (by decide)] at h3
               exact h3)
        · exact absurd rfl h36
      · refine a_iconst C0 1 dX6_numberTo_29 rfl ?_
        refine a_goto C0 34 dX6_numberTo_30 rfl ?_
        refine a_istore_n (ls2 := [(3, _), (0, _), (1, _), (2, _)]) C0 dX6_numberTo_34 rfl (lt_b rfl) rfl ?_
        have hnu : R.1 = true → ((O 7 = 2 ∧ O 9 - O 8 ≤ 3 ∧ O 10 ≤ mx) ↔ nuT b R.2.2 mx) := fun c => by
          obtain ⟨a1, a2, a3⟩ := hN c
          constructor
          · rintro ⟨b1, b2, b3⟩
            have c1 := a1.mp b1
            have c2 := a2.mp b2
            exact ⟨c1, c2, by rw [← a3 c1 c2]; exact b3⟩
          · rintro ⟨b1, b2, b3⟩
            exact ⟨a1.mpr b1, a2.mpr b2, by rw [a3 b1 b2]; exact b3⟩
        refine a_iload_n C0 0 dX6_numberTo_35 rfl rfl ?_
        refine a_if_eq C0 56 dX6_numberTo_36 rfl (fun h36 => ?_) (fun h36 => ?_)
        · exact absurd h36 (by decide)
        · refine a_aload_n C0 1 dX6_numberTo_39 rfl rfl ?_
          refine g_X6_87 C0 (lt_b rfl) rfl rfl dX6_numberTo_40 ?_
          refine a_if_ne C0 56 dX6_numberTo_43 rfl (fun h43 => ?_) (fun h43 => ?_)
          · first
              | (rw [mkM_S, show mkM O S X 0 10 = numT b R.2.2 from (hN hR).2.2 hyes.1 hyes.2.1]
                 have h2 : MR O (upS S j (numT b R.2.2)) b n (true, P', R.2.2) := MR.right (h1.1 hR).1 (h1.1 hR).2.1 gr
                 have hz : (true, P', R.2.2).1 = true → (1 : Int32) = bI True := fun _ => rfl)
              | (have hw := h43
                 have h2 : MR O S b n R := h1
                 have hz : R.1 = true → (1 : Int32) = bI True := fun _ => rfl)
              | (have h2 : MR O S b n R := h1
                 have hno : R.1 = true → ¬ nuT b R.2.2 mx := fun c q => by
                   have z := (hnu c).mpr q
                   first
                     | exact h5 z.1
                     | exact absurd z.2.1 (Int32.not_le.mpr h18)
                     | exact absurd z.2.2 (Int32.not_le.mpr h26)
                 have hz : R.1 = true → (0 : Int32) = bI False := fun _ => rfl)
            refine a_aload_n C0 1 dX6_numberTo_56 rfl rfl ?_
            refine a_iload_n C0 0 dX6_numberTo_57 rfl rfl ?_
            refine a_callV _ 1 C0 EM.refl (c_X6_needs l G hz h0 h2 rfl) u_c_X6_needs u_m_X6_108 u_im_X6_needs u_se_X6_needs u_in_X6 hy_X6_needs rfl (lt_b rfl) rfl (hRk rfl) rfl rfl (le_b rfl) dX6_numberTo_58 (k_v fun u58 q58 => ?_)
            obtain ⟨O2, rfl, eW, h3⟩ := q58
            refine a_vret C0 hr dX6_numberTo_61 ?_
            refine ⟨rfl, O2, _, rfl, eW, ?_⟩
            first
              | (rw [show nuR b n R mx P' = (true, P', tk b n R.2.2.2.2) from if_pos ⟨hR, hyes⟩]
                 exact h3)
              | (have hR : ¬ R.1 = true := fun c => h43 (h1.ok.mpr c)
                 rw [show nuR b n R mx P' = (false, R.2.1, R.2.2) from if_neg fun c => hR c.1]
                 rw [ndR_f hR] at h3
                 exact h3)
              | (rw [show nuR b n R mx P' = (false, R.2.1, R.2.2) from if_neg fun c => hno c.1 c.2]
                 rw [ndR_n (by decide)] at h3
                 exact h3)
          · have hR : R.1 = true := h1.ok.mp h43
            have hyes := (hnu hR).mp ⟨h5, Int32.not_lt.mp h18, Int32.not_lt.mp h26⟩
            have hxx := hx hR
            obtain ⟨T, gr⟩ := hP hR hyes
            refine a_aload_n C0 1 dX6_numberTo_46 rfl rfl ?_
            refine g_X6_7 C0 (lt_b rfl) rfl rfl dX6_numberTo_47 ?_
            refine a_iload_n C0 2 dX6_numberTo_50 rfl rfl ?_
            refine a_aload_n C0 1 dX6_numberTo_51 rfl rfl ?_
            refine g_X6_84 C0 (lt_b rfl) rfl rfl dX6_numberTo_52 ?_
            refine a_iast C0 _ (lt_b rfl) (fun _ => rfl) hxx.1 hxx.2 dX6_numberTo_55 ?_
            first
              | (rw [mkM_S, show mkM O S X 0 10 = numT b R.2.2 from (hN hR).2.2 hyes.1 hyes.2.1]
                 have h2 : MR O (upS S j (numT b R.2.2)) b n (true, P', R.2.2) := MR.right (h1.1 hR).1 (h1.1 hR).2.1 gr
                 have hz : (true, P', R.2.2).1 = true → (1 : Int32) = bI True := fun _ => rfl)
              | (have hw := h43
                 have h2 : MR O S b n R := h1
                 have hz : R.1 = true → (1 : Int32) = bI True := fun _ => rfl)
              | (have h2 : MR O S b n R := h1
                 have hno : R.1 = true → ¬ nuT b R.2.2 mx := fun c q => by
                   have z := (hnu c).mpr q
                   first
                     | exact h5 z.1
                     | exact absurd z.2.1 (Int32.not_le.mpr h18)
                     | exact absurd z.2.2 (Int32.not_le.mpr h26)
                 have hz : R.1 = true → (0 : Int32) = bI False := fun _ => rfl)
            refine a_aload_n C0 1 dX6_numberTo_56 rfl rfl ?_
            refine a_iload_n C0 0 dX6_numberTo_57 rfl rfl ?_
            refine a_callV _ 1 C0 EM.refl (c_X6_needs l G hz h0 h2 rfl) u_c_X6_needs u_m_X6_108 u_im_X6_needs u_se_X6_needs u_in_X6 hy_X6_needs rfl (lt_b rfl) rfl (hRk rfl) rfl rfl (le_b rfl) dX6_numberTo_58 (k_v fun u58 q58 => ?_)
            obtain ⟨O2, rfl, eW, h3⟩ := q58
            refine a_vret C0 hr dX6_numberTo_61 ?_
            refine ⟨rfl, O2, _, rfl, eW, ?_⟩
            first
              | (rw [show nuR b n R mx P' = (true, P', tk b n R.2.2.2.2) from if_pos ⟨hR, hyes⟩]
                 exact h3)
              | (have hR : ¬ R.1 = true := fun c => h43 (h1.ok.mpr c)
                 rw [show nuR b n R mx P' = (false, R.2.1, R.2.2) from if_neg fun c => hR c.1]
                 rw [ndR_f hR] at h3
                 exact h3)
              | (rw [show nuR b n R mx P' = (false, R.2.1, R.2.2) from if_neg fun c => hno c.1 c.2]
                 rw [ndR_n (by decide)] at h3
                 exact h3)
