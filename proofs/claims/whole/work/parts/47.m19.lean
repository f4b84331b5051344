set_option maxRecDepth 100000 in
set_option maxHeartbeats 4000000 in
theorem c_X6_parts (l : Launch) (G : GE) {ad : Nat → Nat} {M : WM} {O S : RW} {X : WM} {x : Int32} {Z : WM} (dr : DR Z O X) (h5 : Z 0 5 = 0) (hM : M = mkM O S X)  : CT l G yX6_parts cX6_parts 3 (some .int) 4 [.ref (ad 0), .int x] 14 ad (shM G ad) M (PI (DP O S X (mPt Z x))) := by
  refine CT.of (own := RX6) rfl rfl (le_b rfl) fun p e s m args below meth c A C0 hr => ?_
  refine AW.lo (ls2 := [(0, _), (1, _)]) rfl ?_
  subst hM
  have e22 : mkM O S X 0 22 = Z 0 2 := dr.2.2.2.1.symm
  refine a_aload_n C0 0 dX6_parts_0 rfl rfl ?_
  refine g_X6_311 C0 (lt_b rfl) rfl rfl dX6_parts_1 ?_
  refine a_iconst C0 3 dX6_parts_4 rfl ?_
  refine a_icmp_ne C0 28 dX6_parts_5 rfl (fun h5_ => ?_) (fun h5_ => ?_)
  · refine a_aload_n C0 0 dX6_parts_28 rfl rfl ?_
    refine g_X6_311 C0 (lt_b rfl) rfl rfl dX6_parts_29 ?_
    refine a_iconst C0 5 dX6_parts_32 rfl ?_
    refine a_icmp_ne C0 70 dX6_parts_33 rfl (fun h33 => ?_) (fun h33 => ?_)
    · refine a_aload_n C0 0 dX6_parts_70 rfl rfl ?_
      refine a_iload_n C0 1 dX6_parts_71 rfl rfl ?_
      refine a_callV _ 1 C0 EM.refl (c_X6_partsPlain l G dr h5 rfl) u_c_X6_partsPlain u_m_X6_329 u_im_X6_partsPlain u_se_X6_partsPlain u_in_X6 hy_X6_partsPlain rfl (lt_b rfl) rfl (hRk rfl) rfl rfl (le_b rfl) dX6_parts_72 (k_i fun r72 u72 q72 => ?_)
      obtain ⟨rfl, O3, X3, rfl, d3, f3⟩ := q72
      refine a_iret C0 hr dX6_parts_75 ?_
      have n3 : ¬ Z 0 2 = 3 := fun q => h5_ (e22.trans q)
      have n5 : ¬ Z 0 2 = 5 := fun q => h33 (e22.trans q)
      rw [show mPt Z x = _ from (if_neg n3).trans (if_neg n5)]
      exact ⟨_, rfl, rfl, _, _, rfl, d3, f3⟩
    · refine a_aload_n C0 0 dX6_parts_36 rfl rfl ?_
      refine a_bipush C0 61 dX6_parts_37 rfl ?_
      refine a_callV _ 1 C0 EM.refl (c_X6_runs l G dr rfl) u_c_X6_runs u_m_X6_302 u_im_X6_runs u_se_X6_runs u_in_X6 hy_X6_runs rfl (lt_b rfl) rfl (hRk rfl) rfl rfl (le_b rfl) dX6_parts_39 (k_v fun u39 q39 => ?_)
      obtain ⟨O2, X2, rfl, d2, f2⟩ := q39
      refine a_aload_n C0 0 dX6_parts_42 rfl rfl ?_
      refine a_iload_n C0 1 dX6_parts_43 rfl rfl ?_
      refine a_callV _ 1 C0 EM.refl (c_X6_partsPlain l G d2 ((note_f (by decide)).trans h5) rfl) u_c_X6_partsPlain u_m_X6_329 u_im_X6_partsPlain u_se_X6_partsPlain u_in_X6 hy_X6_partsPlain rfl (lt_b rfl) rfl (hRk rfl) rfl rfl (le_b rfl) dX6_parts_44 (k_i fun r44 u44 q44 => ?_)
      obtain ⟨rfl, O3, X3, rfl, d3, f3⟩ := q44
      have e25 : mkM O3 S X3 0 25 = (mPtP (noteD Z 61) x).2 0 5 := d3.2.2.2.2.2.2.symm
      have e23 : mkM O3 S X3 0 23 = (mPtP (noteD Z 61) x).2 0 3 := d3.2.2.2.2.1.symm
      refine a_istore_n (ls2 := [(2, _), (0, _), (1, _)]) C0 dX6_parts_47 rfl (lt_b rfl) rfl ?_
      refine a_aload_n C0 1 dX6_parts_48 rfl rfl ?_
      refine g_X6_326 C0 (lt_b rfl) rfl rfl dX6_parts_49 ?_
      refine a_if_eq C0 59 dX6_parts_52 rfl (fun h52 => ?_) (fun h52 => ?_)
      · refine a_iload_n C0 0 dX6_parts_59 rfl rfl ?_
        refine a_aload_n C0 1 dX6_parts_60 rfl rfl ?_
        refine a_aload_n C0 1 dX6_parts_61 rfl rfl ?_
        refine g_X6_305 C0 (lt_b rfl) rfl rfl dX6_parts_62 ?_
        refine a_callV _ 1 C0 EM.refl (c_X6_steams l G d3 rfl) u_c_X6_steams u_m_X6_320 u_im_X6_steams u_se_X6_steams u_in_X6 hy_X6_steams rfl (lt_b rfl) rfl (hRk rfl) rfl rfl (le_b rfl) dX6_parts_65 (k_i fun r65 u65 q65 => ?_)
        obtain ⟨rfl, O4, X4, rfl, d4, f4⟩ := q65
        refine a_imul C0 dX6_parts_68 ?_
        refine a_iret C0 hr dX6_parts_69 ?_
        have k5 : Z 0 2 = 5 := e22.symm.trans h33
        have n3 : ¬ Z 0 2 = 3 := fun q => absurd (k5.symm.trans q) (by decide)
        rw [show mPt Z x = _ from (if_neg n3).trans (if_pos k5)]
        first
          | (rw [if_pos (e25.symm.trans h52), ← e23]
             exact ⟨_, rfl, rfl, _, _, rfl, d4, (f2.trans f3).trans f4⟩)
          | (rw [if_neg fun q => h52 (e25.trans q)]
             exact ⟨_, rfl, rfl, _, _, rfl, d3, f2.trans f3⟩)
      · refine a_iconst C0 0 dX6_parts_55 rfl ?_
        refine a_goto C0 69 dX6_parts_56 rfl ?_
        refine a_iret C0 hr dX6_parts_69 ?_
        have k5 : Z 0 2 = 5 := e22.symm.trans h33
        have n3 : ¬ Z 0 2 = 3 := fun q => absurd (k5.symm.trans q) (by decide)
        rw [show mPt Z x = _ from (if_neg n3).trans (if_pos k5)]
        first
          | (rw [if_pos (e25.symm.trans h52), ← e23]
             exact ⟨_, rfl, rfl, _, _, rfl, d4, (f2.trans f3).trans f4⟩)
          | (rw [if_neg fun q => h52 (e25.trans q)]
             exact ⟨_, rfl, rfl, _, _, rfl, d3, f2.trans f3⟩)
  · refine a_aload_n C0 0 dX6_parts_8 rfl rfl ?_
    refine a_bipush C0 50 dX6_parts_9 rfl ?_
    refine a_callV _ 1 C0 EM.refl (c_X6_runs l G dr rfl) u_c_X6_runs u_m_X6_302 u_im_X6_runs u_se_X6_runs u_in_X6 hy_X6_runs rfl (lt_b rfl) rfl (hRk rfl) rfl rfl (le_b rfl) dX6_parts_11 (k_v fun u11 q11 => ?_)
    obtain ⟨O2, X2, rfl, d2, f2⟩ := q11
    refine a_aload_n C0 0 dX6_parts_14 rfl rfl ?_
    refine a_iload_n C0 1 dX6_parts_15 rfl rfl ?_
    refine a_bipush C0 8 dX6_parts_16 rfl ?_
    refine a_iadd C0 dX6_parts_18 ?_
    refine a_callV _ 1 C0 EM.refl (c_X6_partsPlain l G d2 ((note_f (by decide)).trans h5) rfl) u_c_X6_partsPlain u_m_X6_329 u_im_X6_partsPlain u_se_X6_partsPlain u_in_X6 hy_X6_partsPlain rfl (lt_b rfl) rfl (hRk rfl) rfl rfl (le_b rfl) dX6_parts_19 (k_i fun r19 u19 q19 => ?_)
    obtain ⟨rfl, O3, X3, rfl, d3, f3⟩ := q19
    refine a_aload_n C0 0 dX6_parts_22 rfl rfl ?_
    refine g_X6_305 C0 (lt_b rfl) rfl rfl dX6_parts_23 ?_
    refine a_isub C0 dX6_parts_26 ?_
    refine a_iret C0 hr dX6_parts_27 ?_
    have k3 : Z 0 2 = 3 := e22.symm.trans h5_
    rw [show mPt Z x = _ from if_pos k3]
    exact ⟨_, rfl, congrArg (fun q => (mPtP (noteD Z 50) (x + 8)).1 - q) d3.2.2.2.2.1.symm, _, _, rfl, d3, f2.trans f3⟩
set_option maxRecDepth 100000 in
set_option maxHeartbeats 4000000 in
theorem c_X6_burns (l : Launch) (G : GE) {ad : Nat → Nat} {M : WM} {O S : RW} {X : WM} {x : Int32} {Z : WM} (dr : DR Z O X) (h5 : Z 0 5 = 0) (hM : M = mkM O S X)  : CT l G yX6_burns cX6_burns 3 (some .int) 7 [.ref (ad 0), .int x] 14 ad (shM G ad) M (PI (DP O S X (mBu Z x))) := by
  refine CT.of (own := RX6) rfl rfl (le_b rfl) fun p e s m args below meth c A C0 hr => ?_
  refine AW.lo (ls2 := [(0, _), (1, _)]) rfl ?_
  subst hM
  have e22 : mkM O S X 0 22 = Z 0 2 := dr.2.2.2.1.symm
  refine a_aload_n C0 0 dX6_burns_0 rfl rfl ?_
  refine g_X6_311 C0 (lt_b rfl) rfl rfl dX6_burns_1 ?_
  refine a_iconst C0 2 dX6_burns_4 rfl ?_
  refine a_icmp_eq C0 16 dX6_burns_5 rfl (fun h5_ => ?_) (fun h5_ => ?_)
  · refine a_aload_n C0 0 dX6_burns_16 rfl rfl ?_
    refine a_bipush C0 31 dX6_burns_17 rfl ?_
    refine a_callV _ 1 C0 EM.refl (c_X6_runs l G dr rfl) u_c_X6_runs u_m_X6_302 u_im_X6_runs u_se_X6_runs u_in_X6 hy_X6_runs rfl (lt_b rfl) rfl (hRk rfl) rfl rfl (le_b rfl) dX6_burns_19 (k_v fun u19 q19 => ?_)
    obtain ⟨O2, X2, rfl, d2, f2⟩ := q19
    refine a_aload_n C0 0 dX6_burns_22 rfl rfl ?_
    refine a_iload_n C0 1 dX6_burns_23 rfl rfl ?_
    refine a_callV _ 1 C0 EM.refl (c_X6_burnsPlain l G d2 rfl) u_c_X6_burnsPlain u_m_X6_335 u_im_X6_burnsPlain u_se_X6_burnsPlain u_in_X6 hy_X6_burnsPlain rfl (lt_b rfl) rfl (hRk rfl) rfl rfl (le_b rfl) dX6_burns_24 (k_i fun r24 u24 q24 => ?_)
    obtain ⟨rfl, O3, X3, rfl, d3, f3⟩ := q24
    have e23 : mkM O3 S X3 0 23 = (mBuP (noteD Z 31) x).2 0 3 := d3.2.2.2.2.1.symm
    have h5c : (mBuP (noteD Z 31) x).2 0 5 = 0 := (mBuP_f (by decide)).trans ((note_f (by decide)).trans h5)
    refine a_istore_n (ls2 := [(2, _), (0, _), (1, _)]) C0 dX6_burns_27 rfl (lt_b rfl) rfl ?_
    refine a_iload_n C0 0 dX6_burns_28 rfl rfl ?_
    refine a_aload_n C0 1 dX6_burns_29 rfl rfl ?_
    refine a_aload_n C0 1 dX6_burns_30 rfl rfl ?_
    refine g_X6_305 C0 (lt_b rfl) rfl rfl dX6_burns_31 ?_
    refine a_callV _ 1 C0 EM.refl (c_X6_parts l G d3 h5c rfl) u_c_X6_parts u_m_X6_338 u_im_X6_parts u_se_X6_parts u_in_X6 hy_X6_parts rfl (lt_b rfl) rfl (hRk rfl) rfl rfl (le_b rfl) dX6_burns_34 (k_i fun r34 u34 q34 => ?_)
    obtain ⟨rfl, O4, X4, rfl, d4, f4⟩ := q34
    refine a_iadd C0 dX6_burns_37 ?_
    refine a_iret C0 hr dX6_burns_38 ?_
    have k1 : Z 0 2 = 2 ∨ Z 0 2 = 4 := by
      first
        | exact Or.inl (e22.symm.trans h5_)
        | exact Or.inr (e22.symm.trans h13)
    rw [show mBu Z x = _ from if_pos k1, ← e23]
    exact ⟨_, rfl, rfl, _, _, rfl, d4, (f2.trans f3).trans f4⟩
  · refine a_aload_n C0 0 dX6_burns_8 rfl rfl ?_
    refine g_X6_311 C0 (lt_b rfl) rfl rfl dX6_burns_9 ?_
    refine a_iconst C0 4 dX6_burns_12 rfl ?_
    refine a_icmp_ne C0 39 dX6_burns_13 rfl (fun h13 => ?_) (fun h13 => ?_)
    · refine a_aload_n C0 0 dX6_burns_39 rfl rfl ?_
      refine g_X6_311 C0 (lt_b rfl) rfl rfl dX6_burns_40 ?_
      refine a_iconst C0 5 dX6_burns_43 rfl ?_
      refine a_icmp_ne C0 62 dX6_burns_44 rfl (fun h44 => ?_) (fun h44 => ?_)
      · refine a_aload_n C0 0 dX6_burns_62 rfl rfl ?_
        refine a_iload_n C0 1 dX6_burns_63 rfl rfl ?_
        refine a_callV _ 1 C0 EM.refl (c_X6_burnsPlain l G dr rfl) u_c_X6_burnsPlain u_m_X6_335 u_im_X6_burnsPlain u_se_X6_burnsPlain u_in_X6 hy_X6_burnsPlain rfl (lt_b rfl) rfl (hRk rfl) rfl rfl (le_b rfl) dX6_burns_64 (k_i fun r64 u64 q64 => ?_)
        obtain ⟨rfl, O3, X3, rfl, d3, f3⟩ := q64
        refine a_iret C0 hr dX6_burns_67 ?_
        have n5 : ¬ Z 0 2 = 5 := fun q => h44 (e22.trans q)
        have n1 : ¬ (Z 0 2 = 2 ∨ Z 0 2 = 4) := fun q => q.elim (fun q => h5_ (e22.trans q)) (fun q => h13 (e22.trans q))
        rw [show mBu Z x = _ from (if_neg n1).trans (if_neg n5)]
        exact ⟨_, rfl, rfl, _, _, rfl, d3, f3⟩
      · refine a_aload_n C0 0 dX6_burns_47 rfl rfl ?_
        refine a_bipush C0 60 dX6_burns_48 rfl ?_
        refine a_callV _ 1 C0 EM.refl (c_X6_runs l G dr rfl) u_c_X6_runs u_m_X6_302 u_im_X6_runs u_se_X6_runs u_in_X6 hy_X6_runs rfl (lt_b rfl) rfl (hRk rfl) rfl rfl (le_b rfl) dX6_burns_50 (k_v fun u50 q50 => ?_)
        obtain ⟨O2, X2, rfl, d2, f2⟩ := q50
        refine a_aload_n C0 0 dX6_burns_53 rfl rfl ?_
        refine a_iload_n C0 1 dX6_burns_54 rfl rfl ?_
        refine a_callV _ 1 C0 EM.refl (c_X6_burnsPlain l G d2 rfl) u_c_X6_burnsPlain u_m_X6_335 u_im_X6_burnsPlain u_se_X6_burnsPlain u_in_X6 hy_X6_burnsPlain rfl (lt_b rfl) rfl (hRk rfl) rfl rfl (le_b rfl) dX6_burns_55 (k_i fun r55 u55 q55 => ?_)
        obtain ⟨rfl, O3, X3, rfl, d3, f3⟩ := q55
        refine a_bipush C0 6 dX6_burns_58 rfl ?_
        refine a_isub C0 dX6_burns_60 ?_
        refine a_iret C0 hr dX6_burns_61 ?_
        have k5 : Z 0 2 = 5 := e22.symm.trans h44
        have n1 : ¬ (Z 0 2 = 2 ∨ Z 0 2 = 4) := fun q => q.elim (fun q => absurd (k5.symm.trans q) (by decide)) (fun q => absurd (k5.symm.trans q) (by decide))
        rw [show mBu Z x = _ from (if_neg n1).trans (if_pos k5)]
        exact ⟨_, rfl, rfl, _, _, rfl, d3, f2.trans f3⟩
    · refine a_aload_n C0 0 dX6_burns_16 rfl rfl ?_
      refine a_bipush C0 31 dX6_burns_17 rfl ?_
      refine a_callV _ 1 C0 EM.refl (c_X6_runs l G dr rfl) u_c_X6_runs u_m_X6_302 u_im_X6_runs u_se_X6_runs u_in_X6 hy_X6_runs rfl (lt_b rfl) rfl (hRk rfl) rfl rfl (le_b rfl) dX6_burns_19 (k_v fun u19 q19 => ?_)
      obtain ⟨O2, X2, rfl, d2, f2⟩ := q19
      refine a_aload_n C0 0 dX6_burns_22 rfl rfl ?_
      refine a_iload_n C0 1 dX6_burns_23 rfl rfl ?_
      refine a_callV _ 1 C0 EM.refl (c_X6_burnsPlain l G d2 rfl) u_c_X6_burnsPlain u_m_X6_335 u_im_X6_burnsPlain u_se_X6_burnsPlain u_in_X6 hy_X6_burnsPlain rfl (lt_b rfl) rfl (hRk rfl) rfl rfl (le_b rfl) dX6_burns_24 (k_i fun r24 u24 q24 => ?_)
      obtain ⟨rfl, O3, X3, rfl, d3, f3⟩ := q24
      have e23 : mkM O3 S X3 0 23 = (mBuP (noteD Z 31) x).2 0 3 := d3.2.2.2.2.1.symm
      have h5c : (mBuP (noteD Z 31) x).2 0 5 = 0 := (mBuP_f (by decide)).trans ((note_f (by decide)).trans h5)
      refine a_istore_n (ls2 := [(2, _), (0, _), (1, _)]) C0 dX6_burns_27 rfl (lt_b rfl) rfl ?_
      refine a_iload_n C0 0 dX6_burns_28 rfl rfl ?_
      refine a_aload_n C0 1 dX6_burns_29 rfl rfl ?_
      refine a_aload_n C0 1 dX6_burns_30 rfl rfl ?_
      refine g_X6_305 C0 (lt_b rfl) rfl rfl dX6_burns_31 ?_
      refine a_callV _ 1 C0 EM.refl (c_X6_parts l G d3 h5c rfl) u_c_X6_parts u_m_X6_338 u_im_X6_parts u_se_X6_parts u_in_X6 hy_X6_parts rfl (lt_b rfl) rfl (hRk rfl) rfl rfl (le_b rfl) dX6_burns_34 (k_i fun r34 u34 q34 => ?_)
      obtain ⟨rfl, O4, X4, rfl, d4, f4⟩ := q34
      refine a_iadd C0 dX6_burns_37 ?_
      refine a_iret C0 hr dX6_burns_38 ?_
      have k1 : Z 0 2 = 2 ∨ Z 0 2 = 4 := by
        first
          | exact Or.inl (e22.symm.trans h5_)
          | exact Or.inr (e22.symm.trans h13)
      rw [show mBu Z x = _ from if_pos k1, ← e23]
      exact ⟨_, rfl, rfl, _, _, rfl, d4, (f2.trans f3).trans f4⟩
