
def mBuP (Z : WM) (x : Int32) : Int32 × WM := ((mSm (noteD Z 13) x).1 ^^^ 160, (mSm (noteD Z 13) x).2)
def mPtP (Z : WM) (x : Int32) : Int32 × WM := quoD (noteD Z 12) x ((noteD Z 12) 0 4 - (noteD Z 12) 0 3)
def mPt (Z : WM) (x : Int32) : Int32 × WM := if Z 0 2 = 3 then ((mPtP (noteD Z 50) (x + 8)).1 - (mPtP (noteD Z 50) (x + 8)).2 0 3, (mPtP (noteD Z 50) (x + 8)).2) else if Z 0 2 = 5 then (if (mPtP (noteD Z 61) x).2 0 5 = 0 then ((mPtP (noteD Z 61) x).1 * (mSt (mPtP (noteD Z 61) x).2 ((mPtP (noteD Z 61) x).2 0 3)).1, (mSt (mPtP (noteD Z 61) x).2 ((mPtP (noteD Z 61) x).2 0 3)).2) else (0, (mPtP (noteD Z 61) x).2)) else mPtP Z x
def mBu (Z : WM) (x : Int32) : Int32 × WM := if Z 0 2 = 2 ∨ Z 0 2 = 4 then ((mBuP (noteD Z 31) x).1 + (mPt (mBuP (noteD Z 31) x).2 ((mBuP (noteD Z 31) x).2 0 3)).1, (mPt (mBuP (noteD Z 31) x).2 ((mBuP (noteD Z 31) x).2 0 3)).2) else if Z 0 2 = 5 then ((mBuP (noteD Z 60) x).1 - 6, (mBuP (noteD Z 60) x).2) else mBuP Z x
theorem mSt_f {Z : WM} {x : Int32} {j : Nat} (h : j ≠ 1) : (mSt Z x).2 0 j = Z 0 j := by
  unfold mSt mStR mStP
  split
  · show noteD _ 10 0 j = _
    rw [note_f h, note_f h]
  · split
    · show noteD _ 10 0 j = _
      rw [note_f h, note_f h, note_f h]
    · split
      · show noteD _ 10 0 j = _
        rw [note_f h, note_f h]
      · exact note_f h
theorem mSmP_f {Z : WM} {x : Int32} {j : Nat} (h : j ≠ 1) : (mSmP Z x).2 0 j = Z 0 j := by
  show (mSt (noteD Z 11) x).2 0 j = _
  rw [mSt_f h, note_f h]
theorem mSm_f {Z : WM} {x : Int32} {j : Nat} (h : j ≠ 1) : (mSm Z x).2 0 j = Z 0 j := by
  unfold mSm
  split
  · show (mSmP _ _).2 0 j = _
    rw [mSmP_f h, note_f h]
  · split
    · show (mSt _ _).2 0 j = _
      rw [mSt_f h, mSmP_f h, note_f h]
    · exact mSmP_f h
theorem mBuP_f {Z : WM} {x : Int32} {j : Nat} (h : j ≠ 1) : (mBuP Z x).2 0 j = Z 0 j := by
  show (mSm _ _).2 0 j = _
  rw [mSm_f h, note_f h]
theorem DR.part {Z : WM} {O : RW} {X : WM} {v : Int32} (d : DR Z O X) : DR (up2 Z 0 5 v) (upS O 25 v) X := ⟨d.1, d.2.1, d.2.2.1, d.2.2.2.1, d.2.2.2.2.1, d.2.2.2.2.2.1, rfl⟩
theorem DR.same {Z : WM} {O : RW} {X : WM} (d : DR Z O X) (h : Z 0 5 = 0) : DR Z (upS O 25 0) X := ⟨d.1, d.2.1, d.2.2.1, d.2.2.2.1, d.2.2.2.2.1, d.2.2.2.2.2.1, h⟩
theorem EqD.up {O O2 : RW} {X X2 : WM} {i : Nat} {v : Int32} (a : EqD O X O2 X2) (h : 21 ≤ i) : EqD O X (upS O2 i v) X2 := ⟨fun j hj => (up_ne (by omega)).trans (a.1 j hj), a.2⟩
theorem sub_0 {a b : Int32} : a - b = 0 ↔ b = a := by
  constructor
  · intro h
    have := congrArg (fun q => q + b) h
    have h2 : a - b + b = 0 + b := this
    rw [Int32.sub_add_cancel, Int32.zero_add] at h2
    exact h2.symm
  · intro h
    rw [h]
    exact Int32.sub_self a

set_option maxRecDepth 100000 in
set_option maxHeartbeats 4000000 in
theorem c_X6_smellsPlain (l : Launch) (G : GE) {ad : Nat → Nat} {M : WM} {O S : RW} {X : WM} {x : Int32} {Z : WM} (dr : DR Z O X) (hM : M = mkM O S X)  : CT l G yX6_smellsPlain cX6_smellsPlain 2 (some .int) 4 [.ref (ad 0), .int x] 14 ad (shM G ad) M (PI (DP O S X (mSmP Z x))) := by
  refine CT.of (own := RX6) rfl rfl (le_b rfl) fun p e s m args below meth c A C0 hr => ?_
  refine AW.lo (ls2 := [(0, _), (1, _)]) rfl ?_
  subst hM
  refine a_aload_n C0 0 dX6_smellsPlain_0 rfl rfl ?_
  refine a_bipush C0 11 dX6_smellsPlain_1 rfl ?_
  refine a_callV _ 1 C0 EM.refl (c_X6_runs l G dr rfl) u_c_X6_runs u_m_X6_302 u_im_X6_runs u_se_X6_runs u_in_X6 hy_X6_runs rfl (lt_b rfl) rfl (hRk rfl) rfl rfl (le_b rfl) dX6_smellsPlain_3 (k_v fun u3 q3 => ?_)
  obtain ⟨O2, X2, rfl, d2, f2⟩ := q3
  refine a_aload_n C0 0 dX6_smellsPlain_6 rfl rfl ?_
  refine a_iload_n C0 1 dX6_smellsPlain_7 rfl rfl ?_
  refine a_callV _ 1 C0 EM.refl (c_X6_steams l G d2 rfl) u_c_X6_steams u_m_X6_320 u_im_X6_steams u_se_X6_steams u_in_X6 hy_X6_steams rfl (lt_b rfl) rfl (hRk rfl) rfl rfl (le_b rfl) dX6_smellsPlain_8 (k_i fun r8 u8 q8 => ?_)
  obtain ⟨rfl, O3, X3, rfl, d3, f3⟩ := q8
  refine a_aload_n C0 0 dX6_smellsPlain_11 rfl rfl ?_
  refine g_X6_317 C0 (lt_b rfl) rfl rfl dX6_smellsPlain_12 ?_
  refine a_iconst C0 4 dX6_smellsPlain_15 rfl ?_
  refine a_imul C0 dX6_smellsPlain_16 ?_
  refine a_iadd C0 dX6_smellsPlain_17 ?_
  refine a_iret C0 hr dX6_smellsPlain_18 ?_
  exact ⟨_, rfl, congrArg (fun q => (mSt (noteD Z 11) x).1 + q * 4) d3.2.2.2.2.2.1.symm, _, _, rfl, d3, f2.trans f3⟩
set_option maxRecDepth 100000 in
set_option maxHeartbeats 4000000 in
theorem c_X6_smells (l : Launch) (G : GE) {ad : Nat → Nat} {M : WM} {O S : RW} {X : WM} {x : Int32} {Z : WM} (dr : DR Z O X) (hM : M = mkM O S X)  : CT l G yX6_smells cX6_smells 3 (some .int) 5 [.ref (ad 0), .int x] 14 ad (shM G ad) M (PI (DP O S X (mSm Z x))) := by
  refine CT.of (own := RX6) rfl rfl (le_b rfl) fun p e s m args below meth c A C0 hr => ?_
  refine AW.lo (ls2 := [(0, _), (1, _)]) rfl ?_
  subst hM
  have e22 : mkM O S X 0 22 = Z 0 2 := dr.2.2.2.1.symm
  refine a_aload_n C0 0 dX6_smells_0 rfl rfl ?_
  refine g_X6_311 C0 (lt_b rfl) rfl rfl dX6_smells_1 ?_
  refine a_iconst C0 1 dX6_smells_4 rfl ?_
  refine a_icmp_eq C0 16 dX6_smells_5 rfl (fun h5 => ?_) (fun h5 => ?_)
  · refine a_aload_n C0 0 dX6_smells_16 rfl rfl ?_
    refine a_bipush C0 20 dX6_smells_17 rfl ?_
    refine a_callV _ 1 C0 EM.refl (c_X6_runs l G dr rfl) u_c_X6_runs u_m_X6_302 u_im_X6_runs u_se_X6_runs u_in_X6 hy_X6_runs rfl (lt_b rfl) rfl (hRk rfl) rfl rfl (le_b rfl) dX6_smells_19 (k_v fun u19 q19 => ?_)
    obtain ⟨O2, X2, rfl, d2, f2⟩ := q19
    refine a_aload_n C0 0 dX6_smells_22 rfl rfl ?_
    refine a_iload_n C0 1 dX6_smells_23 rfl rfl ?_
    refine a_callV _ 1 C0 EM.refl (c_X6_smellsPlain l G d2 rfl) u_c_X6_smellsPlain u_m_X6_323 u_im_X6_smellsPlain u_se_X6_smellsPlain u_in_X6 hy_X6_smellsPlain rfl (lt_b rfl) rfl (hRk rfl) rfl rfl (le_b rfl) dX6_smells_24 (k_i fun r24 u24 q24 => ?_)
    obtain ⟨rfl, O3, X3, rfl, d3, f3⟩ := q24
    refine a_iconst C0 1 dX6_smells_27 rfl ?_
    refine a_isub C0 dX6_smells_28 ?_
    refine a_iret C0 hr dX6_smells_29 ?_
    have k1 : Z 0 2 = 1 ∨ Z 0 2 = 3 := by
      first
        | exact Or.inl (e22.symm.trans h5)
        | exact Or.inr (e22.symm.trans h13)
    rw [show mSm Z x = _ from if_pos k1]
    exact ⟨_, rfl, rfl, _, _, rfl, d3, f2.trans f3⟩
  · refine a_aload_n C0 0 dX6_smells_8 rfl rfl ?_
    refine g_X6_311 C0 (lt_b rfl) rfl rfl dX6_smells_9 ?_
    refine a_iconst C0 3 dX6_smells_12 rfl ?_
    refine a_icmp_ne C0 30 dX6_smells_13 rfl (fun h13 => ?_) (fun h13 => ?_)
    · refine a_aload_n C0 0 dX6_smells_30 rfl rfl ?_
      refine g_X6_311 C0 (lt_b rfl) rfl rfl dX6_smells_31 ?_
      refine a_iconst C0 4 dX6_smells_34 rfl ?_
      refine a_icmp_ne C0 61 dX6_smells_35 rfl (fun h35 => ?_) (fun h35 => ?_)
      · refine a_aload_n C0 0 dX6_smells_61 rfl rfl ?_
        refine a_iload_n C0 1 dX6_smells_62 rfl rfl ?_
        refine a_callV _ 1 C0 EM.refl (c_X6_smellsPlain l G dr rfl) u_c_X6_smellsPlain u_m_X6_323 u_im_X6_smellsPlain u_se_X6_smellsPlain u_in_X6 hy_X6_smellsPlain rfl (lt_b rfl) rfl (hRk rfl) rfl rfl (le_b rfl) dX6_smells_63 (k_i fun r63 u63 q63 => ?_)
        obtain ⟨rfl, O3, X3, rfl, d3, f3⟩ := q63
        refine a_iret C0 hr dX6_smells_66 ?_
        have n4 : ¬ Z 0 2 = 4 := fun q => h35 (e22.trans q)
        have n1 : ¬ (Z 0 2 = 1 ∨ Z 0 2 = 3) := fun q => q.elim (fun q => h5 (e22.trans q)) (fun q => h13 (e22.trans q))
        rw [show mSm Z x = _ from (if_neg n1).trans (if_neg n4)]
        exact ⟨_, rfl, rfl, _, _, rfl, d3, f3⟩
      · refine a_aload_n C0 0 dX6_smells_38 rfl rfl ?_
        refine a_bipush C0 41 dX6_smells_39 rfl ?_
        refine a_callV _ 1 C0 EM.refl (c_X6_runs l G dr rfl) u_c_X6_runs u_m_X6_302 u_im_X6_runs u_se_X6_runs u_in_X6 hy_X6_runs rfl (lt_b rfl) rfl (hRk rfl) rfl rfl (le_b rfl) dX6_smells_41 (k_v fun u41 q41 => ?_)
        obtain ⟨O2, X2, rfl, d2, f2⟩ := q41
        refine a_aload_n C0 0 dX6_smells_44 rfl rfl ?_
        refine a_iload_n C0 1 dX6_smells_45 rfl rfl ?_
        refine a_callV _ 1 C0 EM.refl (c_X6_smellsPlain l G d2 rfl) u_c_X6_smellsPlain u_m_X6_323 u_im_X6_smellsPlain u_se_X6_smellsPlain u_in_X6 hy_X6_smellsPlain rfl (lt_b rfl) rfl (hRk rfl) rfl rfl (le_b rfl) dX6_smells_46 (k_i fun r46 u46 q46 => ?_)
        obtain ⟨rfl, O3, X3, rfl, d3, f3⟩ := q46
        refine a_istore_n (ls2 := [(2, _), (0, _), (1, _)]) C0 dX6_smells_49 rfl (lt_b rfl) rfl ?_
        refine a_iload_n C0 0 dX6_smells_50 rfl rfl ?_
        refine a_aload_n C0 1 dX6_smells_51 rfl rfl ?_
        have e24 : mkM O3 S X3 0 24 = (mSmP (noteD Z 41) x).2 0 4 := d3.2.2.2.2.2.1.symm
        refine a_aload_n C0 1 dX6_smells_52 rfl rfl ?_
        refine g_X6_317 C0 (lt_b rfl) rfl rfl dX6_smells_53 ?_
        refine a_callV _ 1 C0 EM.refl (c_X6_steams l G d3 rfl) u_c_X6_steams u_m_X6_320 u_im_X6_steams u_se_X6_steams u_in_X6 hy_X6_steams rfl (lt_b rfl) rfl (hRk rfl) rfl rfl (le_b rfl) dX6_smells_56 (k_i fun r56 u56 q56 => ?_)
        obtain ⟨rfl, O4, X4, rfl, d4, f4⟩ := q56
        refine a_ixor C0 dX6_smells_59 ?_
        refine a_iret C0 hr dX6_smells_60 ?_
        have k4 : Z 0 2 = 4 := e22.symm.trans h35
        have n1 : ¬ (Z 0 2 = 1 ∨ Z 0 2 = 3) := fun q => q.elim (fun q => absurd (k4.symm.trans q) (by decide)) (fun q => absurd (k4.symm.trans q) (by decide))
        rw [show mSm Z x = _ from (if_neg n1).trans (if_pos k4), ← e24]
        exact ⟨_, rfl, rfl, _, _, rfl, d4, (f2.trans f3).trans f4⟩
    · refine a_aload_n C0 0 dX6_smells_16 rfl rfl ?_
      refine a_bipush C0 20 dX6_smells_17 rfl ?_
      refine a_callV _ 1 C0 EM.refl (c_X6_runs l G dr rfl) u_c_X6_runs u_m_X6_302 u_im_X6_runs u_se_X6_runs u_in_X6 hy_X6_runs rfl (lt_b rfl) rfl (hRk rfl) rfl rfl (le_b rfl) dX6_smells_19 (k_v fun u19 q19 => ?_)
      obtain ⟨O2, X2, rfl, d2, f2⟩ := q19
      refine a_aload_n C0 0 dX6_smells_22 rfl rfl ?_
      refine a_iload_n C0 1 dX6_smells_23 rfl rfl ?_
      refine a_callV _ 1 C0 EM.refl (c_X6_smellsPlain l G d2 rfl) u_c_X6_smellsPlain u_m_X6_323 u_im_X6_smellsPlain u_se_X6_smellsPlain u_in_X6 hy_X6_smellsPlain rfl (lt_b rfl) rfl (hRk rfl) rfl rfl (le_b rfl) dX6_smells_24 (k_i fun r24 u24 q24 => ?_)
      obtain ⟨rfl, O3, X3, rfl, d3, f3⟩ := q24
      refine a_iconst C0 1 dX6_smells_27 rfl ?_
      refine a_isub C0 dX6_smells_28 ?_
      refine a_iret C0 hr dX6_smells_29 ?_
      have k1 : Z 0 2 = 1 ∨ Z 0 2 = 3 := by
        first
          | exact Or.inl (e22.symm.trans h5)
          | exact Or.inr (e22.symm.trans h13)
      rw [show mSm Z x = _ from if_pos k1]
      exact ⟨_, rfl, rfl, _, _, rfl, d3, f2.trans f3⟩
set_option maxRecDepth 100000 in
set_option maxHeartbeats 4000000 in
theorem c_X6_burnsPlain (l : Launch) (G : GE) {ad : Nat → Nat} {M : WM} {O S : RW} {X : WM} {x : Int32} {Z : WM} (dr : DR Z O X) (hM : M = mkM O S X)  : CT l G yX6_burnsPlain cX6_burnsPlain 2 (some .int) 6 [.ref (ad 0), .int x] 14 ad (shM G ad) M (PI (DP O S X (mBuP Z x))) := by
  refine CT.of (own := RX6) rfl rfl (le_b rfl) fun p e s m args below meth c A C0 hr => ?_
  refine AW.lo (ls2 := [(0, _), (1, _)]) rfl ?_
  subst hM
  refine a_aload_n C0 0 dX6_burnsPlain_0 rfl rfl ?_
  refine a_bipush C0 13 dX6_burnsPlain_1 rfl ?_
  refine a_callV _ 1 C0 EM.refl (c_X6_runs l G dr rfl) u_c_X6_runs u_m_X6_302 u_im_X6_runs u_se_X6_runs u_in_X6 hy_X6_runs rfl (lt_b rfl) rfl (hRk rfl) rfl rfl (le_b rfl) dX6_burnsPlain_3 (k_v fun u3 q3 => ?_)
  obtain ⟨O2, X2, rfl, d2, f2⟩ := q3
  refine a_aload_n C0 0 dX6_burnsPlain_6 rfl rfl ?_
  refine a_iload_n C0 1 dX6_burnsPlain_7 rfl rfl ?_
  refine a_callV _ 1 C0 EM.refl (c_X6_smells l G d2 rfl) u_c_X6_smells u_m_X6_332 u_im_X6_smells u_se_X6_smells u_in_X6 hy_X6_smells rfl (lt_b rfl) rfl (hRk rfl) rfl rfl (le_b rfl) dX6_burnsPlain_8 (k_i fun r8 u8 q8 => ?_)
  obtain ⟨rfl, O3, X3, rfl, d3, f3⟩ := q8
  refine a_sipush C0 160 dX6_burnsPlain_11 rfl ?_
  refine a_ixor C0 dX6_burnsPlain_14 ?_
  refine a_iret C0 hr dX6_burnsPlain_15 ?_
  exact ⟨_, rfl, rfl, _, _, rfl, d3, f2.trans f3⟩
set_option maxRecDepth 100000 in
set_option maxHeartbeats 4000000 in
theorem c_X6_partsPlain (l : Launch) (G : GE) {ad : Nat → Nat} {M : WM} {O S : RW} {X : WM} {x : Int32} {Z : WM} (dr : DR Z O X) (h5 : Z 0 5 = 0) (hM : M = mkM O S X)  : CT l G yX6_partsPlain cX6_partsPlain 2 (some .int) 1 [.ref (ad 0), .int x] 14 ad (shM G ad) M (PI (DP O S X (mPtP Z x))) := by
  refine CT.of (own := RX6) rfl rfl (le_b rfl) fun p e s m args below meth c A C0 hr => ?_
  refine AW.lo (ls2 := [(0, _), (1, _)]) rfl ?_
  subst hM
  refine a_aload_n C0 0 dX6_partsPlain_0 rfl rfl ?_
  refine a_bipush C0 12 dX6_partsPlain_1 rfl ?_
  refine a_callV _ 1 C0 EM.refl (c_X6_runs l G dr rfl) u_c_X6_runs u_m_X6_302 u_im_X6_runs u_se_X6_runs u_in_X6 hy_X6_runs rfl (lt_b rfl) rfl (hRk rfl) rfl rfl (le_b rfl) dX6_partsPlain_3 (k_v fun u3 q3 => ?_)
  obtain ⟨O2, X2, rfl, d2, f2⟩ := q3
  have e25 : mkM O2 S X2 0 25 = 0 := by
    show O2 25 = 0
    rw [← d2.2.2.2.2.2.2, note_f (by decide), h5]
  have e23 : mkM O2 S X2 0 23 = noteD Z 12 0 3 := d2.2.2.2.2.1.symm
  have e24 : mkM O2 S X2 0 24 = noteD Z 12 0 4 := d2.2.2.2.2.2.1.symm
  refine a_aload_n C0 0 dX6_partsPlain_6 rfl rfl ?_
  refine a_aload_n C0 0 dX6_partsPlain_7 rfl rfl ?_
  refine g_X6_326 C0 (lt_b rfl) rfl rfl dX6_partsPlain_8 ?_
  refine a_if_ne C0 25 dX6_partsPlain_11 rfl (fun h11 => ?_) (fun h11 => ?_)
  · exact absurd e25 h11
  · refine a_aload_n C0 0 dX6_partsPlain_14 rfl rfl ?_
    refine g_X6_305 C0 (lt_b rfl) rfl rfl dX6_partsPlain_15 ?_
    refine a_aload_n C0 0 dX6_partsPlain_18 rfl rfl ?_
    refine g_X6_317 C0 (lt_b rfl) rfl rfl dX6_partsPlain_19 ?_
    refine a_icmp_ne C0 29 dX6_partsPlain_22 rfl (fun h22 => ?_) (fun h22 => ?_)
    · refine a_iconst C0 0 dX6_partsPlain_29 rfl ?_
      refine p_X6_326 C0 (lt_b rfl) rfl (lt_b rfl) rfl rfl rfl dX6_partsPlain_30 ?_
      rw [mkM_O]
      refine a_aload_n C0 0 dX6_partsPlain_33 rfl rfl ?_
      refine g_X6_326 C0 (lt_b rfl) rfl rfl dX6_partsPlain_34 ?_
      refine a_if_eq C0 44 dX6_partsPlain_37 rfl (fun h37 => ?_) (fun h37 => ?_)
      · refine a_iload_n C0 1 dX6_partsPlain_44 rfl rfl ?_
        refine a_aload_n C0 0 dX6_partsPlain_45 rfl rfl ?_
        refine g_X6_317 C0 (lt_b rfl) rfl rfl dX6_partsPlain_46 ?_
        refine a_aload_n C0 0 dX6_partsPlain_49 rfl rfl ?_
        refine g_X6_305 C0 (lt_b rfl) rfl rfl dX6_partsPlain_50 ?_
        refine a_isub C0 dX6_partsPlain_53 ?_
        refine a_idiv C0 dX6_partsPlain_54 (fun q => h22 (by have q2 := sub_0.mp q; exact q2)) ?_
        refine a_iret C0 hr dX6_partsPlain_55 ?_
        first
          | (have hy : noteD Z 12 0 4 - noteD Z 12 0 3 = 0 := sub_0.mpr (by rw [← e23, ← e24]; exact h22)
             rw [show mPtP Z x = (0, up2 (noteD Z 12) 0 5 1) from if_pos hy]
             exact ⟨_, rfl, rfl, _, _, rfl, d2.part, f2.up (by decide)⟩)
          | (have hy : ¬ noteD Z 12 0 4 - noteD Z 12 0 3 = 0 := fun q => h22 (by rw [e23, e24]; exact sub_0.mp q)
             rw [show mPtP Z x = (x / (noteD Z 12 0 4 - noteD Z 12 0 3), noteD Z 12) from if_neg hy, ← e23, ← e24]
             exact ⟨_, rfl, rfl, _, _, rfl, d2.same ((note_f (by decide)).trans h5), f2.up (by decide)⟩)
      · exact absurd rfl h37
    · refine a_iconst C0 1 dX6_partsPlain_25 rfl ?_
      refine a_goto C0 30 dX6_partsPlain_26 rfl ?_
      refine p_X6_326 C0 (lt_b rfl) rfl (lt_b rfl) rfl rfl rfl dX6_partsPlain_30 ?_
      rw [mkM_O]
      refine a_aload_n C0 0 dX6_partsPlain_33 rfl rfl ?_
      refine g_X6_326 C0 (lt_b rfl) rfl rfl dX6_partsPlain_34 ?_
      refine a_if_eq C0 44 dX6_partsPlain_37 rfl (fun h37 => ?_) (fun h37 => ?_)
      · exact absurd h37 (show ¬ (1 : Int32) = 0 by decide)
      · refine a_iconst C0 0 dX6_partsPlain_40 rfl ?_
        refine a_goto C0 55 dX6_partsPlain_41 rfl ?_
        refine a_iret C0 hr dX6_partsPlain_55 ?_
        first
          | (have hy : noteD Z 12 0 4 - noteD Z 12 0 3 = 0 := sub_0.mpr (by rw [← e23, ← e24]; exact h22)
             rw [show mPtP Z x = (0, up2 (noteD Z 12) 0 5 1) from if_pos hy]
             exact ⟨_, rfl, rfl, _, _, rfl, d2.part, f2.up (by decide)⟩)
          | (have hy : ¬ noteD Z 12 0 4 - noteD Z 12 0 3 = 0 := fun q => h22 (by rw [e23, e24]; exact sub_0.mp q)
             rw [show mPtP Z x = (x / (noteD Z 12 0 4 - noteD Z 12 0 3), noteD Z 12) from if_neg hy, ← e23, ← e24]
             exact ⟨_, rfl, rfl, _, _, rfl, d2.same ((note_f (by decide)).trans h5), f2.up (by decide)⟩)
