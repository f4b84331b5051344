theorem nIne {a : Nat} (h : 0 < a) (h2 : a < 2 ^ 31) : ¬ nI a = 0 := by
  intro q
  have q2 := congrArg Int32.toInt q
  rw [nI_toInt h2] at q2
  have q2 : (a : Int) = 0 := q2
  omega

set_option maxRecDepth 100000 in
set_option maxHeartbeats 4000000 in
theorem c_X6_house (l : Launch) (G : GE) {ad : Nat → Nat} {M : WM} {O S : RW} {X : WM} {P : WM} {nT mm : Nat} (rp : RP P S nT mm) {v k y : Int32} (hM : M = mkM O S X)  : CT l G yX6_house cX6_house 4 (some .int) 1 [.ref (ad 0), .int v, .int k, .int y] 14 ad (shM G ad) M (PI (fun r u => r = (if houC v k y then hofS P nT v k else -1) ∧ ∃ S', u = mkM O S' X ∧ RP (if houC v k y then houN P v k y else P) S' nT mm)) := by
  refine CT.of (own := RX6) rfl rfl (le_b rfl) fun p e s m args below meth c A C0 hr => ?_
  refine AW.lo (ls2 := [(0, _), (1, _), (2, _), (3, _)]) rfl ?_
  subst hM
  refine a_iload_n C0 1 dX6_house_0 rfl rfl ?_
  refine a_callS _ 1 C0 EM.z (c_X6_isHouse l G) u_c_X6_isHouse u_m_X6_164 u_st_X6_isHouse u_in_X6 hy_X6_isHouse.2 (hRk rfl) rfl rfl (le_b rfl) dX6_house_1 (k_ro EM.z ?_)
  refine a_if_eqb C0 50 dX6_house_4 rfl (fun h4 => ?_) (fun h4 => ?_)
  · refine a_iconst C0 (-1) dX6_house_50 rfl ?_
    refine a_iret C0 hr dX6_house_51 ?_
    have hc : ¬ houC v k y := by
      rintro ⟨q, q2 | q2 | q2⟩
      · first
          | exact h4 q
          | (rw [q2.1] at h16; exact h16 (by decide))
          | exact h47 q2.2
          | exact h23 q2.1
      · first
          | exact h4 q
          | (rw [q2.1] at h16; exact h16 (by decide))
          | exact absurd (h23.symm.trans q2.1) (by decide)
          | exact h47 q2.2
          | exact h34 q2.1
      · first
          | exact h4 q
          | (rw [q2.1] at h16; exact h16 (by decide))
          | exact absurd (h23.symm.trans q2.1) (by decide)
          | exact absurd (h34.symm.trans q2.1) (by decide)
          | exact h47 q2.2
    exact ⟨_, rfl, (if_neg hc).symm, _, rfl, by rw [if_neg hc]; exact rp⟩
  · refine a_iload_n C0 2 dX6_house_7 rfl rfl ?_
    refine a_i2l C0 dX6_house_8 ?_
    refine a_lconst C0 0 dX6_house_9 rfl ?_
    refine a_ldc2 C0 dX6_house_10 u_k_X6_185 ?_
    refine a_callS _ 3 C0 EM.z (c_X6_isIn l G (w2 := 0) (w3 := 2) rfl rfl rfl) u_c_X6_isIn u_m_X6_54 u_st_X6_isIn u_in_X6 hy_X6_isIn.2 (hRk rfl) rfl rfl (le_b rfl) dX6_house_13 (k_ro EM.z ?_)
    refine a_if_eqb C0 50 dX6_house_16 rfl (fun h16 => ?_) (fun h16 => ?_)
    · refine a_iconst C0 (-1) dX6_house_50 rfl ?_
      refine a_iret C0 hr dX6_house_51 ?_
      have hc : ¬ houC v k y := by
        rintro ⟨q, q2 | q2 | q2⟩
        · first
            | exact h4 q
            | (rw [q2.1] at h16; exact h16 (by decide))
            | exact h47 q2.2
            | exact h23 q2.1
        · first
            | exact h4 q
            | (rw [q2.1] at h16; exact h16 (by decide))
            | exact absurd (h23.symm.trans q2.1) (by decide)
            | exact h47 q2.2
            | exact h34 q2.1
        · first
            | exact h4 q
            | (rw [q2.1] at h16; exact h16 (by decide))
            | exact absurd (h23.symm.trans q2.1) (by decide)
            | exact absurd (h34.symm.trans q2.1) (by decide)
            | exact h47 q2.2
      exact ⟨_, rfl, (if_neg hc).symm, _, rfl, by rw [if_neg hc]; exact rp⟩
    · refine a_iload_n C0 3 dX6_house_19 rfl rfl ?_
      refine a_i2l C0 dX6_house_20 ?_
      refine a_lconst C0 0 dX6_house_21 rfl ?_
      refine a_iload_n C0 2 dX6_house_22 rfl rfl ?_
      refine a_if_ne C0 32 dX6_house_23 rfl (fun h23 => ?_) (fun h23 => ?_)
      · refine a_iload_n C0 2 dX6_house_32 rfl rfl ?_
        refine a_iconst C0 1 dX6_house_33 rfl ?_
        refine a_icmp_ne C0 43 dX6_house_34 rfl (fun h34 => ?_) (fun h34 => ?_)
        · refine a_lconst C0 1 dX6_house_43 rfl ?_
          refine a_callS _ 3 C0 EM.z (c_X6_isIn l G (w2 := 0) (w3 := 1) rfl rfl rfl) u_c_X6_isIn u_m_X6_54 u_st_X6_isIn u_in_X6 hy_X6_isIn.2 (hRk rfl) rfl rfl (le_b rfl) dX6_house_44 (k_ro EM.z ?_)
          refine a_if_neb C0 52 dX6_house_47 rfl (fun h47 => ?_) (fun h47 => ?_)
          · have hk := in_of (n := 2) (by decide) h16
            have hv8 := ho_in h4
            have hvl := vp_lt hv8
            have ek : k = nI (ix k) := (IX.v hk).eq (by decide)
            have hkl := vp_lt hk
            have hx : IX (7 + 8 * k + v) (7 + 8 * ix k + ix v) 63 := IX.eqn (by
              refine Eq.trans ?_ (Eq.trans (nI_add (7 + 8 * ix k) (ix v)) rfl)
              rw [← (IX.v hv8).eq (by decide)]
              refine congrArg (fun q => q + v) ?_
              rw [← nI_add 7, ← pk_mul 8, ← ek]
              rfl) (by omega) (by decide)
            refine a_aload_n C0 0 dX6_house_52 rfl rfl ?_
            refine a_bipush C0 7 dX6_house_53 rfl ?_
            refine a_bipush C0 8 dX6_house_55 rfl ?_
            refine a_iload_n C0 2 dX6_house_57 rfl rfl ?_
            refine a_imul C0 dX6_house_58 ?_
            refine a_iadd C0 dX6_house_59 ?_
            refine a_iload_n C0 1 dX6_house_60 rfl rfl ?_
            refine a_iadd C0 dX6_house_61 ?_
            refine a_iload_n C0 3 dX6_house_62 rfl rfl ?_
            refine a_callV _ 2 C0 EM.refl (c_X6_becomes l G hx rfl) u_c_X6_becomes u_m_X6_156 u_im_X6_becomes u_se_X6_becomes u_in_X6 hy_X6_becomes rfl (lt_b rfl) rfl (hRk rfl) rfl rfl (le_b rfl) dX6_house_63 (k_de ?_)
            refine a_iret C0 hr dX6_house_66 ?_
            first
              | (have hc : houC v k y := ⟨h4, Or.inl ⟨h23, h47⟩⟩
                 subst h23
                 refine ⟨_, rfl, ?_, _, rfl, ?_⟩
                 · rw [if_pos hc]
                   unfold hofS
                   rw [if_pos h4, if_pos rfl]
                   exact rp.fr _ hvl
                 · rw [if_pos hc]
                   unfold houN
                   rw [if_pos rfl]
                   exact rp.fr' hvl (ho_in h47))
              | (have hc : houC v k y := ⟨h4, Or.inr (Or.inl ⟨h34, h47⟩)⟩
                 subst h34
                 refine ⟨_, rfl, ?_, _, rfl, ?_⟩
                 · rw [if_pos hc]
                   unfold hofS
                   rw [if_pos h4, if_neg h23, if_pos rfl]
                   exact rp.ta _ hvl
                 · rw [if_pos hc]
                   unfold houN
                   rw [if_neg h23, if_pos rfl]
                   exact rp.ta' hvl)
              | (have hk2 : k = 2 := by
                   rw [ek]
                   have e0 : ix k ≠ 0 := fun q => h23 (by rw [ek, q]; rfl)
                   have e1 : ix k ≠ 1 := fun q => h34 (by rw [ek, q]; rfl)
                   rw [show ix k = 2 by omega]
                   rfl
                 have hc : houC v k y := ⟨h4, Or.inr (Or.inr ⟨hk2, h47⟩)⟩
                 subst hk2
                 have ev := (IX.v hv8).eq (by decide)
                 have e1 : S (23 + ix v) = bI (boxP P v) := by
                   rw [rp.bx _ hvl, ← ev]
                   rcases bit_01 rp.bxw hv8 with q | q
                   · exact q.trans (bI_f fun z => absurd (q.symm.trans z) (by decide)).symm
                   · exact q.trans (bI_t q).symm
                 refine ⟨_, rfl, ?_, _, rfl, ?_⟩
                 · rw [if_pos hc]
                   unfold hofS
                   rw [if_pos h4, if_neg h23, if_neg h34, if_pos rfl]
                   exact e1
                 · rw [if_pos hc]
                   unfold houN
                   rw [if_neg h23, if_neg h34]
                   by_cases hy : y = 1
                   · subst hy
                     rw [if_pos rfl]
                     have q := bx_on (q := ix v) rp.bxw hvl
                     rw [← ev] at q
                     exact rp.bx' hvl q.1 q.2
                   · rw [if_neg hy]
                     have hy0 : y = 0 := by
                       obtain ⟨j, hj, rfl⟩ := vp_in_of (in_of (n := 1) (by decide) h47) (by decide)
                       match j, hj, hy with
                       | 0, _, _ => rfl
                       | 1, _, hy => exact absurd rfl hy
                     subst hy0
                     have q := bx_off (q := ix v) rp.bxw hvl
                     rw [← ev] at q
                     exact rp.bx' hvl q.1 q.2)
          · refine a_iconst C0 (-1) dX6_house_50 rfl ?_
            refine a_iret C0 hr dX6_house_51 ?_
            have hc : ¬ houC v k y := by
              rintro ⟨q, q2 | q2 | q2⟩
              · first
                  | exact h4 q
                  | (rw [q2.1] at h16; exact h16 (by decide))
                  | exact h47 q2.2
                  | exact h23 q2.1
              · first
                  | exact h4 q
                  | (rw [q2.1] at h16; exact h16 (by decide))
                  | exact absurd (h23.symm.trans q2.1) (by decide)
                  | exact h47 q2.2
                  | exact h34 q2.1
              · first
                  | exact h4 q
                  | (rw [q2.1] at h16; exact h16 (by decide))
                  | exact absurd (h23.symm.trans q2.1) (by decide)
                  | exact absurd (h34.symm.trans q2.1) (by decide)
                  | exact h47 q2.2
            exact ⟨_, rfl, (if_neg hc).symm, _, rfl, by rw [if_neg hc]; exact rp⟩
        · refine a_ldc2 C0 dX6_house_37 u_k_X6_162 ?_
          refine a_goto C0 44 dX6_house_40 rfl ?_
          refine a_callS _ 3 C0 EM.z (c_X6_isIn l G (w2 := 0) (w3 := 99) rfl rfl rfl) u_c_X6_isIn u_m_X6_54 u_st_X6_isIn u_in_X6 hy_X6_isIn.2 (hRk rfl) rfl rfl (le_b rfl) dX6_house_44 (k_ro EM.z ?_)
          refine a_if_neb C0 52 dX6_house_47 rfl (fun h47 => ?_) (fun h47 => ?_)
          · have hk := in_of (n := 2) (by decide) h16
            have hv8 := ho_in h4
            have hvl := vp_lt hv8
            have ek : k = nI (ix k) := (IX.v hk).eq (by decide)
            have hkl := vp_lt hk
            have hx : IX (7 + 8 * k + v) (7 + 8 * ix k + ix v) 63 := IX.eqn (by
              refine Eq.trans ?_ (Eq.trans (nI_add (7 + 8 * ix k) (ix v)) rfl)
              rw [← (IX.v hv8).eq (by decide)]
              refine congrArg (fun q => q + v) ?_
              rw [← nI_add 7, ← pk_mul 8, ← ek]
              rfl) (by omega) (by decide)
            refine a_aload_n C0 0 dX6_house_52 rfl rfl ?_
            refine a_bipush C0 7 dX6_house_53 rfl ?_
            refine a_bipush C0 8 dX6_house_55 rfl ?_
            refine a_iload_n C0 2 dX6_house_57 rfl rfl ?_
            refine a_imul C0 dX6_house_58 ?_
            refine a_iadd C0 dX6_house_59 ?_
            refine a_iload_n C0 1 dX6_house_60 rfl rfl ?_
            refine a_iadd C0 dX6_house_61 ?_
            refine a_iload_n C0 3 dX6_house_62 rfl rfl ?_
            refine a_callV _ 2 C0 EM.refl (c_X6_becomes l G hx rfl) u_c_X6_becomes u_m_X6_156 u_im_X6_becomes u_se_X6_becomes u_in_X6 hy_X6_becomes rfl (lt_b rfl) rfl (hRk rfl) rfl rfl (le_b rfl) dX6_house_63 (k_de ?_)
            refine a_iret C0 hr dX6_house_66 ?_
            first
              | (have hc : houC v k y := ⟨h4, Or.inl ⟨h23, h47⟩⟩
                 subst h23
                 refine ⟨_, rfl, ?_, _, rfl, ?_⟩
                 · rw [if_pos hc]
                   unfold hofS
                   rw [if_pos h4, if_pos rfl]
                   exact rp.fr _ hvl
                 · rw [if_pos hc]
                   unfold houN
                   rw [if_pos rfl]
                   exact rp.fr' hvl (ho_in h47))
              | (have hc : houC v k y := ⟨h4, Or.inr (Or.inl ⟨h34, h47⟩)⟩
                 subst h34
                 refine ⟨_, rfl, ?_, _, rfl, ?_⟩
                 · rw [if_pos hc]
                   unfold hofS
                   rw [if_pos h4, if_neg h23, if_pos rfl]
                   exact rp.ta _ hvl
                 · rw [if_pos hc]
                   unfold houN
                   rw [if_neg h23, if_pos rfl]
                   exact rp.ta' hvl)
              | (have hk2 : k = 2 := by
                   rw [ek]
                   have e0 : ix k ≠ 0 := fun q => h23 (by rw [ek, q]; rfl)
                   have e1 : ix k ≠ 1 := fun q => h34 (by rw [ek, q]; rfl)
                   rw [show ix k = 2 by omega]
                   rfl
                 have hc : houC v k y := ⟨h4, Or.inr (Or.inr ⟨hk2, h47⟩)⟩
                 subst hk2
                 have ev := (IX.v hv8).eq (by decide)
                 have e1 : S (23 + ix v) = bI (boxP P v) := by
                   rw [rp.bx _ hvl, ← ev]
                   rcases bit_01 rp.bxw hv8 with q | q
                   · exact q.trans (bI_f fun z => absurd (q.symm.trans z) (by decide)).symm
                   · exact q.trans (bI_t q).symm
                 refine ⟨_, rfl, ?_, _, rfl, ?_⟩
                 · rw [if_pos hc]
                   unfold hofS
                   rw [if_pos h4, if_neg h23, if_neg h34, if_pos rfl]
                   exact e1
                 · rw [if_pos hc]
                   unfold houN
                   rw [if_neg h23, if_neg h34]
                   by_cases hy : y = 1
                   · subst hy
                     rw [if_pos rfl]
                     have q := bx_on (q := ix v) rp.bxw hvl
                     rw [← ev] at q
                     exact rp.bx' hvl q.1 q.2
                   · rw [if_neg hy]
                     have hy0 : y = 0 := by
                       obtain ⟨j, hj, rfl⟩ := vp_in_of (in_of (n := 1) (by decide) h47) (by decide)
                       match j, hj, hy with
                       | 0, _, _ => rfl
                       | 1, _, hy => exact absurd rfl hy
                     subst hy0
                     have q := bx_off (q := ix v) rp.bxw hvl
                     rw [← ev] at q
                     exact rp.bx' hvl q.1 q.2)
          · refine a_iconst C0 (-1) dX6_house_50 rfl ?_
            refine a_iret C0 hr dX6_house_51 ?_
            have hc : ¬ houC v k y := by
              rintro ⟨q, q2 | q2 | q2⟩
              · first
                  | exact h4 q
                  | (rw [q2.1] at h16; exact h16 (by decide))
                  | exact h47 q2.2
                  | exact h23 q2.1
              · first
                  | exact h4 q
                  | (rw [q2.1] at h16; exact h16 (by decide))
                  | exact absurd (h23.symm.trans q2.1) (by decide)
                  | exact h47 q2.2
                  | exact h34 q2.1
              · first
                  | exact h4 q
                  | (rw [q2.1] at h16; exact h16 (by decide))
                  | exact absurd (h23.symm.trans q2.1) (by decide)
                  | exact absurd (h34.symm.trans q2.1) (by decide)
                  | exact h47 q2.2
            exact ⟨_, rfl, (if_neg hc).symm, _, rfl, by rw [if_neg hc]; exact rp⟩
      · refine a_ldc2 C0 dX6_house_26 u_k_X6_187 ?_
        refine a_goto C0 44 dX6_house_29 rfl ?_
        refine a_callS _ 3 C0 EM.z (c_X6_isIn l G (w2 := 0) (w3 := 7) rfl rfl rfl) u_c_X6_isIn u_m_X6_54 u_st_X6_isIn u_in_X6 hy_X6_isIn.2 (hRk rfl) rfl rfl (le_b rfl) dX6_house_44 (k_ro EM.z ?_)
        refine a_if_neb C0 52 dX6_house_47 rfl (fun h47 => ?_) (fun h47 => ?_)
        · have hk := in_of (n := 2) (by decide) h16
          have hv8 := ho_in h4
          have hvl := vp_lt hv8
          have ek : k = nI (ix k) := (IX.v hk).eq (by decide)
          have hkl := vp_lt hk
          have hx : IX (7 + 8 * k + v) (7 + 8 * ix k + ix v) 63 := IX.eqn (by
            refine Eq.trans ?_ (Eq.trans (nI_add (7 + 8 * ix k) (ix v)) rfl)
            rw [← (IX.v hv8).eq (by decide)]
            refine congrArg (fun q => q + v) ?_
            rw [← nI_add 7, ← pk_mul 8, ← ek]
            rfl) (by omega) (by decide)
          refine a_aload_n C0 0 dX6_house_52 rfl rfl ?_
          refine a_bipush C0 7 dX6_house_53 rfl ?_
          refine a_bipush C0 8 dX6_house_55 rfl ?_
          refine a_iload_n C0 2 dX6_house_57 rfl rfl ?_
          refine a_imul C0 dX6_house_58 ?_
          refine a_iadd C0 dX6_house_59 ?_
          refine a_iload_n C0 1 dX6_house_60 rfl rfl ?_
          refine a_iadd C0 dX6_house_61 ?_
          refine a_iload_n C0 3 dX6_house_62 rfl rfl ?_
          refine a_callV _ 2 C0 EM.refl (c_X6_becomes l G hx rfl) u_c_X6_becomes u_m_X6_156 u_im_X6_becomes u_se_X6_becomes u_in_X6 hy_X6_becomes rfl (lt_b rfl) rfl (hRk rfl) rfl rfl (le_b rfl) dX6_house_63 (k_de ?_)
          refine a_iret C0 hr dX6_house_66 ?_
          first
            | (have hc : houC v k y := ⟨h4, Or.inl ⟨h23, h47⟩⟩
               subst h23
               refine ⟨_, rfl, ?_, _, rfl, ?_⟩
               · rw [if_pos hc]
                 unfold hofS
                 rw [if_pos h4, if_pos rfl]
                 exact rp.fr _ hvl
               · rw [if_pos hc]
                 unfold houN
                 rw [if_pos rfl]
                 exact rp.fr' hvl (ho_in h47))
            | (have hc : houC v k y := ⟨h4, Or.inr (Or.inl ⟨h34, h47⟩)⟩
               subst h34
               refine ⟨_, rfl, ?_, _, rfl, ?_⟩
               · rw [if_pos hc]
                 unfold hofS
                 rw [if_pos h4, if_neg h23, if_pos rfl]
                 exact rp.ta _ hvl
               · rw [if_pos hc]
                 unfold houN
                 rw [if_neg h23, if_pos rfl]
                 exact rp.ta' hvl)
            | (have hk2 : k = 2 := by
                 rw [ek]
                 have e0 : ix k ≠ 0 := fun q => h23 (by rw [ek, q]; rfl)
                 have e1 : ix k ≠ 1 := fun q => h34 (by rw [ek, q]; rfl)
                 rw [show ix k = 2 by omega]
                 rfl
               have hc : houC v k y := ⟨h4, Or.inr (Or.inr ⟨hk2, h47⟩)⟩
               subst hk2
               have ev := (IX.v hv8).eq (by decide)
               have e1 : S (23 + ix v) = bI (boxP P v) := by
                 rw [rp.bx _ hvl, ← ev]
                 rcases bit_01 rp.bxw hv8 with q | q
                 · exact q.trans (bI_f fun z => absurd (q.symm.trans z) (by decide)).symm
                 · exact q.trans (bI_t q).symm
               refine ⟨_, rfl, ?_, _, rfl, ?_⟩
               · rw [if_pos hc]
                 unfold hofS
                 rw [if_pos h4, if_neg h23, if_neg h34, if_pos rfl]
                 exact e1
               · rw [if_pos hc]
                 unfold houN
                 rw [if_neg h23, if_neg h34]
                 by_cases hy : y = 1
                 · subst hy
                   rw [if_pos rfl]
                   have q := bx_on (q := ix v) rp.bxw hvl
                   rw [← ev] at q
                   exact rp.bx' hvl q.1 q.2
                 · rw [if_neg hy]
                   have hy0 : y = 0 := by
                     obtain ⟨j, hj, rfl⟩ := vp_in_of (in_of (n := 1) (by decide) h47) (by decide)
                     match j, hj, hy with
                     | 0, _, _ => rfl
                     | 1, _, hy => exact absurd rfl hy
                   subst hy0
                   have q := bx_off (q := ix v) rp.bxw hvl
                   rw [← ev] at q
                   exact rp.bx' hvl q.1 q.2)
        · refine a_iconst C0 (-1) dX6_house_50 rfl ?_
          refine a_iret C0 hr dX6_house_51 ?_
          have hc : ¬ houC v k y := by
            rintro ⟨q, q2 | q2 | q2⟩
            · first
                | exact h4 q
                | (rw [q2.1] at h16; exact h16 (by decide))
                | exact h47 q2.2
                | exact h23 q2.1
            · first
                | exact h4 q
                | (rw [q2.1] at h16; exact h16 (by decide))
                | exact absurd (h23.symm.trans q2.1) (by decide)
                | exact h47 q2.2
                | exact h34 q2.1
            · first
                | exact h4 q
                | (rw [q2.1] at h16; exact h16 (by decide))
                | exact absurd (h23.symm.trans q2.1) (by decide)
                | exact absurd (h34.symm.trans q2.1) (by decide)
                | exact h47 q2.2
          exact ⟨_, rfl, (if_neg hc).symm, _, rfl, by rw [if_neg hc]; exact rp⟩
set_option maxRecDepth 100000 in
set_option maxHeartbeats 4000000 in
theorem c_X6_houseOf (l : Launch) (G : GE) {ad : Nat → Nat} {M : WM} {O S : RW} {X : WM} {P : WM} {nT mm : Nat} (rp : RP P S nT mm) {v k : Int32} (hM : M = mkM O S X)  : CT l G yX6_houseOf cX6_houseOf 3 (some .int) 2 [.ref (ad 0), .int v, .int k] 14 ad (shM G ad) M (PI (fun r u => r = hofS P nT v k ∧ u = mkM O S X)) := by
  refine CT.of (own := RX6) rfl rfl (le_b rfl) fun p e s m args below meth c A C0 hr => ?_
  refine AW.lo (ls2 := [(0, _), (1, _), (2, _)]) rfl ?_
  subst hM
  refine a_iload_n C0 1 dX6_houseOf_0 rfl rfl ?_
  refine a_callS _ 1 C0 EM.z (c_X6_isHouse l G) u_c_X6_isHouse u_m_X6_164 u_st_X6_isHouse u_in_X6 hy_X6_isHouse.2 (hRk rfl) rfl rfl (le_b rfl) dX6_houseOf_1 (k_ro EM.z ?_)
  refine a_if_eqb C0 19 dX6_houseOf_4 rfl (fun h4 => ?_) (fun h4 => ?_)
  · refine a_iconst C0 (-1) dX6_houseOf_19 rfl ?_
    refine a_iret C0 hr dX6_houseOf_20 ?_
    refine rt_ ?_
    unfold hofS
    first
      | exact (if_neg h4).symm
      | (have n0 : ¬ k = 0 := fun q => h16 (by rw [q]; decide); have n1 : ¬ k = 1 := fun q => h16 (by rw [q]; decide); have n2 : ¬ k = 2 := fun q => h16 (by rw [q]; decide); have n3 : ¬ k = 3 := fun q => h16 (by rw [q]; decide); have n4 : ¬ k = 4 := fun q => h16 (by rw [q]; decide); have n5 : ¬ k = 5 := fun q => h16 (by rw [q]; decide); rw [if_pos h4, if_neg n0, if_neg n1, if_neg n2, if_neg n3, if_neg n4, if_neg n5])
  · refine a_iload_n C0 2 dX6_houseOf_7 rfl rfl ?_
    refine a_i2l C0 dX6_houseOf_8 ?_
    refine a_lconst C0 0 dX6_houseOf_9 rfl ?_
    refine a_ldc2 C0 dX6_houseOf_10 u_k_X6_160 ?_
    refine a_callS _ 3 C0 EM.z (c_X6_isIn l G (w2 := 0) (w3 := 5) rfl rfl rfl) u_c_X6_isIn u_m_X6_54 u_st_X6_isIn u_in_X6 hy_X6_isIn.2 (hRk rfl) rfl rfl (le_b rfl) dX6_houseOf_13 (k_ro EM.z ?_)
    refine a_if_neb C0 21 dX6_houseOf_16 rfl (fun h16 => ?_) (fun h16 => ?_)
    · refine a_iload_n C0 2 dX6_houseOf_21 rfl rfl ?_
      refine a_iconst C0 3 dX6_houseOf_22 rfl ?_
      refine a_icmp_ge C0 41 dX6_houseOf_23 rfl (fun h23 => ?_) (fun h23 => ?_)
      · refine a_iload_n C0 2 dX6_houseOf_41 rfl rfl ?_
        refine a_iconst C0 3 dX6_houseOf_42 rfl ?_
        refine a_icmp_ne C0 54 dX6_houseOf_43 rfl (fun h43 => ?_) (fun h43 => ?_)
        · refine a_iload_n C0 2 dX6_houseOf_54 rfl rfl ?_
          refine a_iconst C0 4 dX6_houseOf_55 rfl ?_
          refine a_icmp_ne C0 67 dX6_houseOf_56 rfl (fun h56 => ?_) (fun h56 => ?_)
          · refine a_aload_n C0 0 dX6_houseOf_67 rfl rfl ?_
            refine a_iload_n C0 1 dX6_houseOf_68 rfl rfl ?_
            refine a_callV _ 1 C0 EM.refl (c_X6_talesHeardBy l G rp (ho_in h4) rfl) u_c_X6_talesHeardBy u_m_X6_195 u_im_X6_talesHeardBy u_se_X6_talesHeardBy u_in_X6 hy_X6_talesHeardBy rfl (lt_b rfl) rfl (hRk rfl) rfl rfl (le_b rfl) dX6_houseOf_69 (k_ro EM.refl ?_)
            refine a_iret C0 hr dX6_houseOf_72 ?_
            refine rt_ ?_
            have m0 : ¬ k = 0 := fun q => absurd h23 (by rw [q]; decide)
            have m1 : ¬ k = 1 := fun q => absurd h23 (by rw [q]; decide)
            have m2 : ¬ k = 2 := fun q => absurd h23 (by rw [q]; decide)
            unfold hofS
            rw [if_pos h4, if_neg m0, if_neg m1, if_neg m2]
            first
              | rw [if_pos h43]
              | rw [if_neg h43, if_pos h56]
              | (have e5 : k = 5 := by
                   obtain ⟨j, hj, rfl⟩ := vp_in_of (in_of (n := 5) (by decide) h16) (by decide)
                   match j, hj with
                   | 0, _ => exact absurd rfl m0
                   | 1, _ => exact absurd rfl m1
                   | 2, _ => exact absurd rfl m2
                   | 3, _ => exact absurd rfl h43
                   | 4, _ => exact absurd rfl h56
                   | 5, _ => rfl
                 rw [if_neg h43, if_neg h56, if_pos e5])
          · refine a_aload_n C0 0 dX6_houseOf_59 rfl rfl ?_
            refine a_iload_n C0 1 dX6_houseOf_60 rfl rfl ?_
            refine a_callV _ 1 C0 EM.refl (c_X6_loopOf l G rp (ho_in h4) rfl) u_c_X6_loopOf u_m_X6_192 u_im_X6_loopOf u_se_X6_loopOf u_in_X6 hy_X6_loopOf rfl (lt_b rfl) rfl (hRk rfl) rfl rfl (le_b rfl) dX6_houseOf_61 (k_ro EM.refl ?_)
            refine a_goto C0 72 dX6_houseOf_64 rfl ?_
            refine a_iret C0 hr dX6_houseOf_72 ?_
            refine rt_ ?_
            have m0 : ¬ k = 0 := fun q => absurd h23 (by rw [q]; decide)
            have m1 : ¬ k = 1 := fun q => absurd h23 (by rw [q]; decide)
            have m2 : ¬ k = 2 := fun q => absurd h23 (by rw [q]; decide)
            unfold hofS
            rw [if_pos h4, if_neg m0, if_neg m1, if_neg m2]
            first
              | rw [if_pos h43]
              | rw [if_neg h43, if_pos h56]
              | (have e5 : k = 5 := by
                   obtain ⟨j, hj, rfl⟩ := vp_in_of (in_of (n := 5) (by decide) h16) (by decide)
                   match j, hj with
                   | 0, _ => exact absurd rfl m0
                   | 1, _ => exact absurd rfl m1
                   | 2, _ => exact absurd rfl m2
                   | 3, _ => exact absurd rfl h43
                   | 4, _ => exact absurd rfl h56
                   | 5, _ => rfl
                 rw [if_neg h43, if_neg h56, if_pos e5])
        · refine a_aload_n C0 0 dX6_houseOf_46 rfl rfl ?_
          refine a_iload_n C0 1 dX6_houseOf_47 rfl rfl ?_
          refine a_callV _ 1 C0 EM.refl (c_X6_talesAt l G rp  rfl) u_c_X6_talesAt u_m_X6_189 u_im_X6_talesAt u_se_X6_talesAt u_in_X6 hy_X6_talesAt rfl (lt_b rfl) rfl (hRk rfl) rfl rfl (le_b rfl) dX6_houseOf_48 (k_ro EM.refl ?_)
          refine a_goto C0 72 dX6_houseOf_51 rfl ?_
          refine a_iret C0 hr dX6_houseOf_72 ?_
          refine rt_ ?_
          have m0 : ¬ k = 0 := fun q => absurd h23 (by rw [q]; decide)
          have m1 : ¬ k = 1 := fun q => absurd h23 (by rw [q]; decide)
          have m2 : ¬ k = 2 := fun q => absurd h23 (by rw [q]; decide)
          unfold hofS
          rw [if_pos h4, if_neg m0, if_neg m1, if_neg m2]
          first
            | rw [if_pos h43]
            | rw [if_neg h43, if_pos h56]
            | (have e5 : k = 5 := by
                 obtain ⟨j, hj, rfl⟩ := vp_in_of (in_of (n := 5) (by decide) h16) (by decide)
                 match j, hj with
                 | 0, _ => exact absurd rfl m0
                 | 1, _ => exact absurd rfl m1
                 | 2, _ => exact absurd rfl m2
                 | 3, _ => exact absurd rfl h43
                 | 4, _ => exact absurd rfl h56
                 | 5, _ => rfl
               rw [if_neg h43, if_neg h56, if_pos e5])
      · have hk : vp_in k 3 := by
          obtain ⟨j, hj, rfl⟩ := vp_in_of (in_of (n := 5) (by decide) h16) (by decide)
          have h23 := Int32.not_le.mp h23
          exact vp_in_nI ((nI_ltI (b := 3) (by omega) (by decide)).mp h23) (by decide)
        have hv8 := ho_in h4
        have hvl := vp_lt hv8
        have ek : k = nI (ix k) := (IX.v hk).eq (by decide)
        have hkl := vp_lt hk
        have hx : IX (7 + 8 * k + v) (7 + 8 * ix k + ix v) 63 := IX.eqn (by
          refine Eq.trans ?_ (Eq.trans (nI_add (7 + 8 * ix k) (ix v)) rfl)
          rw [← (IX.v hv8).eq (by decide)]
          refine congrArg (fun q => q + v) ?_
          rw [← nI_add 7, ← pk_mul 8, ← ek]
          rfl) (by omega) (by decide)
        refine a_aload_n C0 0 dX6_houseOf_26 rfl rfl ?_
        refine g_X6_7 C0 (lt_b rfl) rfl rfl dX6_houseOf_27 ?_
        refine a_bipush C0 7 dX6_houseOf_30 rfl ?_
        refine a_bipush C0 8 dX6_houseOf_32 rfl ?_
        refine a_iload_n C0 2 dX6_houseOf_34 rfl rfl ?_
        refine a_imul C0 dX6_houseOf_35 ?_
        refine a_iadd C0 dX6_houseOf_36 ?_
        refine a_iload_n C0 1 dX6_houseOf_37 rfl rfl ?_
        refine a_iadd C0 dX6_houseOf_38 ?_
        refine a_iald C0 _ (lt_b rfl) rfl hx.1 hx.2 dX6_houseOf_39 ?_
        refine a_iret C0 hr dX6_houseOf_40 ?_
        refine rt_ ?_
        unfold hofS
        rw [if_pos h4]
        have ev := (IX.v hv8).eq (by decide)
        by_cases k0 : k = 0
        · subst k0
          rw [if_pos rfl]
          exact rp.fr _ hvl
        · rw [if_neg k0]
          by_cases k1 : k = 1
          · subst k1
            rw [if_pos rfl]
            exact rp.ta _ hvl
          · rw [if_neg k1]
            have hk2 : k = 2 := by
              rw [ek]
              have e0 : ix k ≠ 0 := fun q => k0 (by rw [ek, q]; rfl)
              have e1 : ix k ≠ 1 := fun q => k1 (by rw [ek, q]; rfl)
              rw [show ix k = 2 by omega]
              rfl
            subst hk2
            rw [if_pos rfl]
            show S (23 + ix v) = _
            rw [rp.bx _ hvl, ← ev]
            rcases bit_01 rp.bxw hv8 with q | q
            · exact q.trans (bI_f fun z => absurd (q.symm.trans z) (by decide)).symm
            · exact q.trans (bI_t q).symm
    · refine a_iconst C0 (-1) dX6_houseOf_19 rfl ?_
      refine a_iret C0 hr dX6_houseOf_20 ?_
      refine rt_ ?_
      unfold hofS
      first
        | exact (if_neg h4).symm
        | (have n0 : ¬ k = 0 := fun q => h16 (by rw [q]; decide); have n1 : ¬ k = 1 := fun q => h16 (by rw [q]; decide); have n2 : ¬ k = 2 := fun q => h16 (by rw [q]; decide); have n3 : ¬ k = 3 := fun q => h16 (by rw [q]; decide); have n4 : ¬ k = 4 := fun q => h16 (by rw [q]; decide); have n5 : ¬ k = 5 := fun q => h16 (by rw [q]; decide); rw [if_pos h4, if_neg n0, if_neg n1, if_neg n2, if_neg n3, if_neg n4, if_neg n5])
set_option maxRecDepth 100000 in
set_option maxHeartbeats 4000000 in
theorem c_X6_minutes (l : Launch) (G : GE) {ad : Nat → Nat} {M : WM} {O S : RW} {X : WM} {P : WM} {nT mm : Nat} (rp : RP P S nT mm) {v : Int32} (hm : mm + 60 < 2 ^ 31) (hM : M = mkM O S X)  : CT l G yX6_minutes cX6_minutes 2 (some .int) 4 [.ref (ad 0), .int v] 14 ad (shM G ad) M (PI (fun r u => r = (if 1 ≤ v ∧ v ≤ 60 then sumP (passesP (ix v) P nT 5) nT else -1) ∧ ∃ S', u = mkM O S' X ∧ RP (if 1 ≤ v ∧ v ≤ 60 then passesP (ix v) P nT else P) S' nT (mm + (if 1 ≤ v ∧ v ≤ 60 then ix v else 0)))) := by
  refine CT.of (own := RX6) rfl rfl (le_b rfl) fun p e s m args below meth c A C0 hr => ?_
  refine AW.lo (ls2 := [(0, _), (1, _)]) rfl ?_
  subst hM
  refine a_iload_n C0 1 dX6_minutes_0 rfl rfl ?_
  refine a_i2l C0 dX6_minutes_1 ?_
  refine a_lconst C0 1 dX6_minutes_2 rfl ?_
  refine a_ldc2 C0 dX6_minutes_3 u_k_X6_204 ?_
  refine a_callS _ 3 C0 EM.z (c_X6_isIn l G (w2 := 1) (w3 := 60) rfl rfl rfl) u_c_X6_isIn u_m_X6_54 u_st_X6_isIn u_in_X6 hy_X6_isIn.2 (hRk rfl) rfl rfl (le_b rfl) dX6_minutes_6 (k_ro EM.z ?_)
  refine a_if_neb C0 14 dX6_minutes_9 rfl (fun h9 => ?_) (fun h9 => ?_)
  · have hv := in_of (n := 60) (by decide) ⟨Int32.le_trans (by decide) h9.1, h9.2⟩
    have hvl := vp_lt hv
    refine a_aload_n C0 0 dX6_minutes_14 rfl rfl ?_
    refine a_iload_n C0 1 dX6_minutes_15 rfl rfl ?_
    refine a_callV _ 1 C0 EM.refl (c_X6_goes l G rp ((IX.v hv).eq (by decide)) (by omega) rfl) u_c_X6_goes u_m_X6_206 u_im_X6_goes u_se_X6_goes u_in_X6 hy_X6_goes rfl (lt_b rfl) rfl (hRk rfl) rfl rfl (le_b rfl) dX6_minutes_16 (k_v fun u16 q16 => ?_)
    obtain ⟨S3, rfl, rp3⟩ := q16
    refine a_aload_n C0 0 dX6_minutes_19 rfl rfl ?_
    refine a_callV _ 0 C0 EM.refl (c_X6_heatOfAll l G rp3 rfl) u_c_X6_heatOfAll u_m_X6_209 u_im_X6_heatOfAll u_se_X6_heatOfAll u_in_X6 hy_X6_heatOfAll rfl (lt_b rfl) rfl (hRk rfl) rfl rfl (le_b rfl) dX6_minutes_20 (k_ro EM.refl ?_)
    refine a_iret C0 hr dX6_minutes_23 ?_
    exact ⟨_, rfl, (if_pos h9).symm, _, rfl, by rw [if_pos h9, if_pos h9]; exact rp3⟩
  · refine a_iconst C0 (-1) dX6_minutes_12 rfl ?_
    refine a_iret C0 hr dX6_minutes_13 ?_
    exact ⟨_, rfl, (if_neg h9).symm, _, rfl, by rw [if_neg h9, if_neg h9]; exact rp⟩
set_option maxRecDepth 100000 in
set_option maxHeartbeats 4000000 in
theorem c_X6_seed (l : Launch) (G : GE) {ad : Nat → Nat} {M : WM} {O S : RW} {X : WM} {P : WM} {nT mm : Nat} (rp : RP P S nT mm) {v : Int32} (hM : M = mkM O S X)  : CT l G yX6_seed cX6_seed 2 (some .int) 1 [.ref (ad 0), .int v] 14 ad (shM G ad) M (PI (fun r u => r = P 0 10 ∧ ∃ S', u = mkM O S' X ∧ RP (up2 P 0 10 v) S' nT mm)) := by
  refine CT.of (own := RX6) rfl rfl (le_b rfl) fun p e s m args below meth c A C0 hr => ?_
  refine AW.lo (ls2 := [(0, _), (1, _)]) rfl ?_
  subst hM
  refine a_aload_n C0 0 dX6_seed_0 rfl rfl ?_
  refine a_iconst C0 2 dX6_seed_1 rfl ?_
  refine a_iload_n C0 1 dX6_seed_2 rfl rfl ?_
  refine a_callV _ 2 C0 EM.refl (c_X6_becomes l G (q := 2) ⟨vq rfl, rfl⟩ rfl) u_c_X6_becomes u_m_X6_156 u_im_X6_becomes u_se_X6_becomes u_in_X6 hy_X6_becomes rfl (lt_b rfl) rfl (hRk rfl) rfl rfl (le_b rfl) dX6_seed_3 (k_de ?_)
  refine a_iret C0 hr dX6_seed_6 ?_
  exact ⟨_, rfl, rp.z, _, rfl, rp.zz⟩
set_option maxRecDepth 100000 in
set_option maxHeartbeats 4000000 in
theorem c_X6_drawn (l : Launch) (G : GE) {ad : Nat → Nat} {M : WM} {O S : RW} {X : WM} {P : WM} {nT mm : Nat} (rp : RP P S nT mm) (hM : M = mkM O S X)  : CT l G yX6_drawn cX6_drawn 1 (some .int) 0 [.ref (ad 0)] 14 ad (shM G ad) M (PI (fun r u => r = dvP P ∧ ∃ S', u = mkM O S' X ∧ RP (drP P) S' nT mm)) := by
  refine CT.of (own := RX6) rfl rfl (le_b rfl) fun p e s m args below meth c A C0 hr => ?_
  refine AW.lo (ls2 := [(0, _)]) rfl ?_
  subst hM
  refine a_aload_n C0 0 dX6_drawn_0 rfl rfl ?_
  refine g_X6_7 C0 (lt_b rfl) rfl rfl dX6_drawn_1 ?_
  refine a_iconst C0 2 dX6_drawn_4 rfl ?_
  refine a_aload_n C0 0 dX6_drawn_5 rfl rfl ?_
  refine g_X6_7 C0 (lt_b rfl) rfl rfl dX6_drawn_6 ?_
  refine a_iconst C0 2 dX6_drawn_9 rfl ?_
  refine a_iald C0 2 (lt_b rfl) rfl (vq rfl) rfl dX6_drawn_10 ?_
  refine a_ldc C0 dX6_drawn_11 u_k_X6_212 ?_
  refine a_imul C0 dX6_drawn_13 ?_
  refine a_sipush C0 12345 dX6_drawn_14 rfl ?_
  refine a_iadd C0 dX6_drawn_17 ?_
  refine a_iast C0 2 (lt_b rfl) (fun _ => rfl) (vq rfl) rfl dX6_drawn_18 ?_
  refine a_aload_n C0 0 dX6_drawn_19 rfl rfl ?_
  refine g_X6_7 C0 (lt_b rfl) rfl rfl dX6_drawn_20 ?_
  refine a_iconst C0 2 dX6_drawn_23 rfl ?_
  refine a_iald C0 2 (lt_b rfl) rfl (vq rfl) rfl dX6_drawn_24 ?_
  refine a_bipush C0 16 dX6_drawn_25 rfl ?_
  refine a_iushr C0 dX6_drawn_27 ?_
  refine a_iret C0 hr dX6_drawn_28 ?_
  rw [mkM_S]
  refine ⟨_, rfl, ?_, _, rfl, ?_⟩
  · have e : mkM O (upS S 2 (mkM O S X 1 2 * 1103515245 + 12345)) X 1 2 = drawZ (P 0 10) := by
      show S 2 * 1103515245 + 12345 = _
      rw [rp.z]
      rfl
    rw [e]
    rfl
  · show RP _ (upS S 2 (S 2 * 1103515245 + 12345)) nT mm
    rw [rp.z]
    exact rp.zz
set_option maxRecDepth 100000 in
set_option maxHeartbeats 4000000 in
theorem c_X6_minute (l : Launch) (G : GE) {ad : Nat → Nat} {M : WM} {O S : RW} {X : WM} {P : WM} {nT mm : Nat} (rp : RP P S nT mm) (hm : mm < 2 ^ 31) (hM : M = mkM O S X)  : CT l G yX6_minute cX6_minute 2 (some .int) 3 [.ref (ad 0)] 14 ad (shM G ad) M (PI (fun r u => r = sumP (drawsP P nT 5) nT ∧ ∃ S', u = mkM O S' X ∧ RP (drawsP P nT) S' nT (mm + 1))) := by
  refine CT.of (own := RX6) rfl rfl (le_b rfl) fun p e s m args below meth c A C0 hr => ?_
  refine AW.lo (ls2 := [(0, _)]) rfl ?_
  subst hM
  refine a_aload_n C0 0 dX6_minute_0 rfl rfl ?_
  refine g_X6_7 C0 (lt_b rfl) rfl rfl dX6_minute_1 ?_
  refine a_iconst C0 0 dX6_minute_4 rfl ?_
  refine a_iald C0 0 (lt_b rfl) rfl (vq rfl) rfl dX6_minute_5 ?_
  refine a_if_le C0 50 dX6_minute_6 rfl (fun h6 => ?_) (fun h6 => ?_)
  · refine a_aload_n C0 0 dX6_minute_50 rfl rfl ?_
    refine a_callV _ 0 C0 EM.refl (c_X6_goesOn l G (by first | exact rp4 | exact rp2 | exact rp) hm rfl) u_c_X6_goesOn u_m_X6_201 u_im_X6_goesOn u_se_X6_goesOn u_in_X6 hy_X6_goesOn rfl (lt_b rfl) rfl (hRk rfl) rfl rfl (le_b rfl) dX6_minute_51 (k_v fun u51 q51 => ?_)
    obtain ⟨S5, rfl, rp5⟩ := q51
    refine a_aload_n C0 0 dX6_minute_54 rfl rfl ?_
    refine a_callV _ 0 C0 EM.refl (c_X6_heatOfAll l G rp5 rfl) u_c_X6_heatOfAll u_m_X6_209 u_im_X6_heatOfAll u_se_X6_heatOfAll u_in_X6 hy_X6_heatOfAll rfl (lt_b rfl) rfl (hRk rfl) rfl rfl (le_b rfl) dX6_minute_55 (k_ro EM.refl ?_)
    refine a_iret C0 hr dX6_minute_58 ?_
    first
      | (have hp : P 0 8 ≤ 0 := by
           rw [rp.n1, ← rp.n2]
           exact h6
         have e : drawsP P nT = passP P nT := if_pos hp
         rw [e]
         exact ⟨_, rfl, rfl, _, rfl, rp5⟩)
      | (have e : drawsP P nT = passP (bringP (drP (drP (drP P))) (ix (rm (dvP P) (nI nT))) (rm (dvP (drP (drP P))) 8)) nT := by
           unfold drawsP
           rw [if_neg hp, if_pos hlw, rp.n1]
         rw [e]
         exact ⟨_, rfl, rfl, _, rfl, rp5⟩)
      | (have hlw : ¬ rm (dvP (drP P)) 100 < P 1 3 := by
           rw [show mkM O S2 X 1 6 = P 1 3 from rp2.law 3 (by decide)] at h35
           exact Int32.not_lt.mpr h35
         have e : drawsP P nT = passP (drP (drP P)) nT := by
           unfold drawsP
           rw [if_neg hp, if_neg hlw]
         rw [e]
         exact ⟨_, rfl, rfl, _, rfl, rp5⟩)
  · have t8 := rp.t8
    have hp : ¬ P 0 8 ≤ 0 := by
      rw [rp.n1, ← rp.n2]
      exact h6
    have h0 := rp.w.pos hp
    refine a_aload_n C0 0 dX6_minute_9 rfl rfl ?_
    refine a_callV _ 0 C0 EM.refl (c_X6_drawn l G rp  rfl) u_c_X6_drawn u_m_X6_213 u_im_X6_drawn u_se_X6_drawn u_in_X6 hy_X6_drawn rfl (lt_b rfl) rfl (hRk rfl) rfl rfl (le_b rfl) dX6_minute_10 (k_i fun r10 u10 q10 => ?_)
    obtain ⟨rfl, S1, rfl, rp1⟩ := q10
    refine a_aload_n C0 0 dX6_minute_13 rfl rfl ?_
    refine g_X6_7 C0 (lt_b rfl) rfl rfl dX6_minute_14 ?_
    refine a_iconst C0 0 dX6_minute_17 rfl ?_
    refine a_iald C0 0 (lt_b rfl) rfl (vq rfl) rfl dX6_minute_18 ?_
    refine a_irem C0 dX6_minute_19 (by rw [show mkM O S1 X 1 0 = nI nT from rp1.n2]; exact nIne h0 (by omega)) ?_
    rw [show mkM O S1 X 1 0 = nI nT from rp1.n2]
    refine a_istore_n (ls2 := [(1, _), (0, _)]) C0 dX6_minute_20 rfl (lt_b rfl) rfl ?_
    refine a_aload_n C0 1 dX6_minute_21 rfl rfl ?_
    refine a_callV _ 0 C0 EM.refl (c_X6_drawn l G rp1 rfl) u_c_X6_drawn u_m_X6_213 u_im_X6_drawn u_se_X6_drawn u_in_X6 hy_X6_drawn rfl (lt_b rfl) rfl (hRk rfl) rfl rfl (le_b rfl) dX6_minute_22 (k_i fun r22 u22 q22 => ?_)
    obtain ⟨rfl, S2, rfl, rp2⟩ := q22
    refine a_bipush C0 100 dX6_minute_25 rfl ?_
    refine a_irem C0 dX6_minute_27 (by decide) ?_
    refine a_aload_n C0 1 dX6_minute_28 rfl rfl ?_
    refine g_X6_7 C0 (lt_b rfl) rfl rfl dX6_minute_29 ?_
    refine a_bipush C0 6 dX6_minute_32 rfl ?_
    refine a_iald C0 6 (lt_b rfl) rfl (vq rfl) rfl dX6_minute_34 ?_
    refine a_icmp_ge C0 50 dX6_minute_35 rfl (fun h35 => ?_) (fun h35 => ?_)
    · refine a_aload_n C0 1 dX6_minute_50 rfl rfl ?_
      refine a_callV _ 0 C0 EM.refl (c_X6_goesOn l G (by first | exact rp4 | exact rp2 | exact rp) hm rfl) u_c_X6_goesOn u_m_X6_201 u_im_X6_goesOn u_se_X6_goesOn u_in_X6 hy_X6_goesOn rfl (lt_b rfl) rfl (hRk rfl) rfl rfl (le_b rfl) dX6_minute_51 (k_v fun u51 q51 => ?_)
      obtain ⟨S5, rfl, rp5⟩ := q51
      refine a_aload_n C0 1 dX6_minute_54 rfl rfl ?_
      refine a_callV _ 0 C0 EM.refl (c_X6_heatOfAll l G rp5 rfl) u_c_X6_heatOfAll u_m_X6_209 u_im_X6_heatOfAll u_se_X6_heatOfAll u_in_X6 hy_X6_heatOfAll rfl (lt_b rfl) rfl (hRk rfl) rfl rfl (le_b rfl) dX6_minute_55 (k_ro EM.refl ?_)
      refine a_iret C0 hr dX6_minute_58 ?_
      first
        | (have hp : P 0 8 ≤ 0 := by
             rw [rp.n1, ← rp.n2]
             exact h6
           have e : drawsP P nT = passP P nT := if_pos hp
           rw [e]
           exact ⟨_, rfl, rfl, _, rfl, rp5⟩)
        | (have e : drawsP P nT = passP (bringP (drP (drP (drP P))) (ix (rm (dvP P) (nI nT))) (rm (dvP (drP (drP P))) 8)) nT := by
             unfold drawsP
             rw [if_neg hp, if_pos hlw, rp.n1]
           rw [e]
           exact ⟨_, rfl, rfl, _, rfl, rp5⟩)
        | (have hlw : ¬ rm (dvP (drP P)) 100 < P 1 3 := by
             rw [show mkM O S2 X 1 6 = P 1 3 from rp2.law 3 (by decide)] at h35
             exact Int32.not_lt.mpr h35
           have e : drawsP P nT = passP (drP (drP P)) nT := by
             unfold drawsP
             rw [if_neg hp, if_neg hlw]
           rw [e]
           exact ⟨_, rfl, rfl, _, rfl, rp5⟩)
    · have hlw : rm (dvP (drP P)) 100 < P 1 3 := by
        rw [show mkM O S2 X 1 6 = P 1 3 from rp2.law 3 (by decide)] at h35
        exact Int32.not_le.mp h35
      have hone : IX (rm (dvP P) (nI nT)) (ix (rm (dvP P) (nI nT))) nT := IX.v (rm16 _ rfl h0 (by omega))
      refine a_aload_n C0 1 dX6_minute_38 rfl rfl ?_
      refine a_iload_n C0 0 dX6_minute_39 rfl rfl ?_
      refine a_aload_n C0 1 dX6_minute_40 rfl rfl ?_
      refine a_callV _ 0 C0 EM.refl (c_X6_drawn l G rp2 rfl) u_c_X6_drawn u_m_X6_213 u_im_X6_drawn u_se_X6_drawn u_in_X6 hy_X6_drawn rfl (lt_b rfl) rfl (hRk rfl) rfl rfl (le_b rfl) dX6_minute_41 (k_i fun r41 u41 q41 => ?_)
      obtain ⟨rfl, S3, rfl, rp3⟩ := q41
      refine a_bipush C0 8 dX6_minute_44 rfl ?_
      refine a_irem C0 dX6_minute_46 (by decide) ?_
      refine a_callV _ 2 C0 EM.refl (c_X6_reaches l G rp3 hone (rm16 _ (y := 8) (d := 8) rfl (by decide) (by decide)) rfl) u_c_X6_reaches u_m_X6_182 u_im_X6_reaches u_se_X6_reaches u_in_X6 hy_X6_reaches rfl (lt_b rfl) rfl (hRk rfl) rfl rfl (le_b rfl) dX6_minute_47 (k_v fun u47 q47 => ?_)
      obtain ⟨S4, rfl, rp4⟩ := q47
      refine a_aload_n C0 1 dX6_minute_50 rfl rfl ?_
      refine a_callV _ 0 C0 EM.refl (c_X6_goesOn l G (by first | exact rp4 | exact rp2 | exact rp) hm rfl) u_c_X6_goesOn u_m_X6_201 u_im_X6_goesOn u_se_X6_goesOn u_in_X6 hy_X6_goesOn rfl (lt_b rfl) rfl (hRk rfl) rfl rfl (le_b rfl) dX6_minute_51 (k_v fun u51 q51 => ?_)
      obtain ⟨S5, rfl, rp5⟩ := q51
      refine a_aload_n C0 1 dX6_minute_54 rfl rfl ?_
      refine a_callV _ 0 C0 EM.refl (c_X6_heatOfAll l G rp5 rfl) u_c_X6_heatOfAll u_m_X6_209 u_im_X6_heatOfAll u_se_X6_heatOfAll u_in_X6 hy_X6_heatOfAll rfl (lt_b rfl) rfl (hRk rfl) rfl rfl (le_b rfl) dX6_minute_55 (k_ro EM.refl ?_)
      refine a_iret C0 hr dX6_minute_58 ?_
      first
        | (have hp : P 0 8 ≤ 0 := by
             rw [rp.n1, ← rp.n2]
             exact h6
           have e : drawsP P nT = passP P nT := if_pos hp
           rw [e]
           exact ⟨_, rfl, rfl, _, rfl, rp5⟩)
        | (have e : drawsP P nT = passP (bringP (drP (drP (drP P))) (ix (rm (dvP P) (nI nT))) (rm (dvP (drP (drP P))) 8)) nT := by
             unfold drawsP
             rw [if_neg hp, if_pos hlw, rp.n1]
           rw [e]
           exact ⟨_, rfl, rfl, _, rfl, rp5⟩)
        | (have hlw : ¬ rm (dvP (drP P)) 100 < P 1 3 := by
             rw [show mkM O S2 X 1 6 = P 1 3 from rp2.law 3 (by decide)] at h35
             exact Int32.not_lt.mpr h35
           have e : drawsP P nT = passP (drP (drP P)) nT := by
             unfold drawsP
             rw [if_neg hp, if_neg hlw]
           rw [e]
           exact ⟨_, rfl, rfl, _, rfl, rp5⟩)
set_option maxRecDepth 100000 in
set_option maxHeartbeats 4000000 in
theorem c_X6_state (l : Launch) (G : GE) {ad : Nat → Nat} {M : WM} {O S : RW} {X : WM} {P : WM} {nT mm : Nat} (rp : RP P S nT mm) {k : Int32} (hM : M = mkM O S X)  : CT l G yX6_state cX6_state 2 (some .int) 2 [.ref (ad 0), .int k] 14 ad (shM G ad) M (PI (fun r u => r = staS P nT k ∧ u = mkM O S X)) := by
  refine CT.of (own := RX6) rfl rfl (le_b rfl) fun p e s m args below meth c A C0 hr => ?_
  refine AW.lo (ls2 := [(0, _), (1, _)]) rfl ?_
  subst hM
  refine a_iload_n C0 1 dX6_state_0 rfl rfl ?_
  refine a_case 0 (fun h1 => ?_) (fun h1n_0 => ?_)
  · refine a_tsIn C0 40 dX6_state_1 (by decide) (by decide) rfl rfl ?_
    refine a_aload_n C0 0 dX6_state_40 rfl rfl ?_
    refine g_X6_7 C0 (lt_b rfl) rfl rfl dX6_state_41 ?_
    refine a_iconst C0 1 dX6_state_44 rfl ?_
    refine a_iald C0 1 (lt_b rfl) rfl (vq rfl) rfl dX6_state_45 ?_
    refine a_iret C0 hr dX6_state_46 ?_
    refine rt_ ?_
    unfold staS
    first
      | rw [if_neg h1n_0, if_neg h1n_1, if_neg h1n_2, if_neg h1n_3, if_neg h1n_4, if_neg h1n_5]
      | rw [if_neg h1n_0, if_neg h1n_1, if_neg h1n_2, if_neg h1n_3, if_neg h1n_4, if_pos h1]
      | rw [if_neg h1n_0, if_neg h1n_1, if_neg h1n_2, if_neg h1n_3, if_pos h1]
      | rw [if_neg h1n_0, if_neg h1n_1, if_neg h1n_2, if_pos h1]
      | rw [if_neg h1n_0, if_neg h1n_1, if_pos h1]
      | rw [if_neg h1n_0, if_pos h1]
      | (rw [if_pos h1, rp.m1]; exact rp.m2)
  refine a_case 1 (fun h1 => ?_) (fun h1n_1 => ?_)
  · refine a_tsIn C0 47 dX6_state_1 (by decide) (by decide) rfl rfl ?_
    refine a_aload_n C0 0 dX6_state_47 rfl rfl ?_
    refine a_callV _ 0 C0 EM.refl (c_X6_heatOfAll l G rp  rfl) u_c_X6_heatOfAll u_m_X6_209 u_im_X6_heatOfAll u_se_X6_heatOfAll u_in_X6 hy_X6_heatOfAll rfl (lt_b rfl) rfl (hRk rfl) rfl rfl (le_b rfl) dX6_state_48 (k_ro EM.refl ?_)
    refine a_iret C0 hr dX6_state_51 ?_
    refine rt_ ?_
    unfold staS
    first
      | rw [if_neg h1n_0, if_neg h1n_1, if_neg h1n_2, if_neg h1n_3, if_neg h1n_4, if_neg h1n_5]
      | rw [if_neg h1n_0, if_neg h1n_1, if_neg h1n_2, if_neg h1n_3, if_neg h1n_4, if_pos h1]
      | rw [if_neg h1n_0, if_neg h1n_1, if_neg h1n_2, if_neg h1n_3, if_pos h1]
      | rw [if_neg h1n_0, if_neg h1n_1, if_neg h1n_2, if_pos h1]
      | rw [if_neg h1n_0, if_neg h1n_1, if_pos h1]
      | rw [if_neg h1n_0, if_pos h1]
      | (rw [if_pos h1, rp.m1]; exact rp.m2)
  refine a_case 2 (fun h1 => ?_) (fun h1n_2 => ?_)
  · refine a_tsIn C0 52 dX6_state_1 (by decide) (by decide) rfl rfl ?_
    refine a_aload_n C0 0 dX6_state_52 rfl rfl ?_
    refine a_callV _ 0 C0 EM.refl (c_X6_heardOfAll l G rp  rfl) u_c_X6_heardOfAll u_m_X6_218 u_im_X6_heardOfAll u_se_X6_heardOfAll u_in_X6 hy_X6_heardOfAll rfl (lt_b rfl) rfl (hRk rfl) rfl rfl (le_b rfl) dX6_state_53 (k_ro EM.refl ?_)
    refine a_iret C0 hr dX6_state_56 ?_
    refine rt_ ?_
    unfold staS
    first
      | rw [if_neg h1n_0, if_neg h1n_1, if_neg h1n_2, if_neg h1n_3, if_neg h1n_4, if_neg h1n_5]
      | rw [if_neg h1n_0, if_neg h1n_1, if_neg h1n_2, if_neg h1n_3, if_neg h1n_4, if_pos h1]
      | rw [if_neg h1n_0, if_neg h1n_1, if_neg h1n_2, if_neg h1n_3, if_pos h1]
      | rw [if_neg h1n_0, if_neg h1n_1, if_neg h1n_2, if_pos h1]
      | rw [if_neg h1n_0, if_neg h1n_1, if_pos h1]
      | rw [if_neg h1n_0, if_pos h1]
      | (rw [if_pos h1, rp.m1]; exact rp.m2)
  refine a_case 3 (fun h1 => ?_) (fun h1n_3 => ?_)
  · refine a_tsIn C0 57 dX6_state_1 (by decide) (by decide) rfl rfl ?_
    refine a_aload_n C0 0 dX6_state_57 rfl rfl ?_
    refine a_callV _ 0 C0 EM.refl (c_X6_housesInUse l G rp  rfl) u_c_X6_housesInUse u_m_X6_224 u_im_X6_housesInUse u_se_X6_housesInUse u_in_X6 hy_X6_housesInUse rfl (lt_b rfl) rfl (hRk rfl) rfl rfl (le_b rfl) dX6_state_58 (k_ro EM.refl ?_)
    refine a_iret C0 hr dX6_state_61 ?_
    refine rt_ ?_
    unfold staS
    first
      | rw [if_neg h1n_0, if_neg h1n_1, if_neg h1n_2, if_neg h1n_3, if_neg h1n_4, if_neg h1n_5]
      | rw [if_neg h1n_0, if_neg h1n_1, if_neg h1n_2, if_neg h1n_3, if_neg h1n_4, if_pos h1]
      | rw [if_neg h1n_0, if_neg h1n_1, if_neg h1n_2, if_neg h1n_3, if_pos h1]
      | rw [if_neg h1n_0, if_neg h1n_1, if_neg h1n_2, if_pos h1]
      | rw [if_neg h1n_0, if_neg h1n_1, if_pos h1]
      | rw [if_neg h1n_0, if_pos h1]
      | (rw [if_pos h1, rp.m1]; exact rp.m2)
  refine a_case 4 (fun h1 => ?_) (fun h1n_4 => ?_)
  · refine a_tsIn C0 62 dX6_state_1 (by decide) (by decide) rfl rfl ?_
    refine a_aload_n C0 0 dX6_state_62 rfl rfl ?_
    refine a_callV _ 0 C0 EM.refl (c_X6_boxes l G rp  rfl) u_c_X6_boxes u_m_X6_227 u_im_X6_boxes u_se_X6_boxes u_in_X6 hy_X6_boxes rfl (lt_b rfl) rfl (hRk rfl) rfl rfl (le_b rfl) dX6_state_63 (k_ro EM.refl ?_)
    refine a_iret C0 hr dX6_state_66 ?_
    refine rt_ ?_
    unfold staS
    first
      | rw [if_neg h1n_0, if_neg h1n_1, if_neg h1n_2, if_neg h1n_3, if_neg h1n_4, if_neg h1n_5]
      | rw [if_neg h1n_0, if_neg h1n_1, if_neg h1n_2, if_neg h1n_3, if_neg h1n_4, if_pos h1]
      | rw [if_neg h1n_0, if_neg h1n_1, if_neg h1n_2, if_neg h1n_3, if_pos h1]
      | rw [if_neg h1n_0, if_neg h1n_1, if_neg h1n_2, if_pos h1]
      | rw [if_neg h1n_0, if_neg h1n_1, if_pos h1]
      | rw [if_neg h1n_0, if_pos h1]
      | (rw [if_pos h1, rp.m1]; exact rp.m2)
  refine a_case 5 (fun h1 => ?_) (fun h1n_5 => ?_)
  · refine a_tsIn C0 67 dX6_state_1 (by decide) (by decide) rfl rfl ?_
    refine a_aload_n C0 0 dX6_state_67 rfl rfl ?_
    refine a_callV _ 0 C0 EM.refl (c_X6_coldOnes l G rp  rfl) u_c_X6_coldOnes u_m_X6_230 u_im_X6_coldOnes u_se_X6_coldOnes u_in_X6 hy_X6_coldOnes rfl (lt_b rfl) rfl (hRk rfl) rfl rfl (le_b rfl) dX6_state_68 (k_ro EM.refl ?_)
    refine a_iret C0 hr dX6_state_71 ?_
    refine rt_ ?_
    unfold staS
    first
      | rw [if_neg h1n_0, if_neg h1n_1, if_neg h1n_2, if_neg h1n_3, if_neg h1n_4, if_neg h1n_5]
      | rw [if_neg h1n_0, if_neg h1n_1, if_neg h1n_2, if_neg h1n_3, if_neg h1n_4, if_pos h1]
      | rw [if_neg h1n_0, if_neg h1n_1, if_neg h1n_2, if_neg h1n_3, if_pos h1]
      | rw [if_neg h1n_0, if_neg h1n_1, if_neg h1n_2, if_pos h1]
      | rw [if_neg h1n_0, if_neg h1n_1, if_pos h1]
      | rw [if_neg h1n_0, if_pos h1]
      | (rw [if_pos h1, rp.m1]; exact rp.m2)
  refine a_tsOut C0 72 dX6_state_1 (by have t0 := lv_neT (a := 0) h1n_0 rfl; have t1 := lv_neT (a := 1) h1n_1 rfl; have t2 := lv_neT (a := 2) h1n_2 rfl; have t3 := lv_neT (a := 3) h1n_3 rfl; have t4 := lv_neT (a := 4) h1n_4 rfl; have t5 := lv_neT (a := 5) h1n_5 rfl; omega) rfl ?_
  refine a_iconst C0 (-1) dX6_state_72 rfl ?_
  refine a_iret C0 hr dX6_state_73 ?_
  refine rt_ ?_
  unfold staS
  first
    | rw [if_neg h1n_0, if_neg h1n_1, if_neg h1n_2, if_neg h1n_3, if_neg h1n_4, if_neg h1n_5]
    | rw [if_neg h1n_0, if_neg h1n_1, if_neg h1n_2, if_neg h1n_3, if_neg h1n_4, if_pos h1]
    | rw [if_neg h1n_0, if_neg h1n_1, if_neg h1n_2, if_neg h1n_3, if_pos h1]
    | rw [if_neg h1n_0, if_neg h1n_1, if_neg h1n_2, if_pos h1]
    | rw [if_neg h1n_0, if_neg h1n_1, if_pos h1]
    | rw [if_neg h1n_0, if_pos h1]
    | (rw [if_pos h1, rp.m1]; exact rp.m2)
set_option maxRecDepth 100000 in
set_option maxHeartbeats 4000000 in
theorem c_X6_many (l : Launch) (G : GE) {ad : Nat → Nat} {M : WM} {O S : RW} {X : WM} {P : WM} {nT mm : Nat} (rp : RP P S nT mm) {k : Int32} {OX : RW} {B Z : WM} (e6 : O 13 = OX 6) (eB : O 6 = B 0 1) (eZ : O 21 = Z 0 1) (hM : M = mkM O S X)  : CT l G yX6_many cX6_many 2 (some .int) 2 [.ref (ad 0), .int k] 14 ad (shM G ad) M (PI (fun r u => r = manS OX P B Z nT k ∧ u = mkM O S X)) := by
  refine CT.of (own := RX6) rfl rfl (le_b rfl) fun p e s m args below meth c A C0 hr => ?_
  refine AW.lo (ls2 := [(0, _), (1, _)]) rfl ?_
  subst hM
  refine a_iload_n C0 1 dX6_many_0 rfl rfl ?_
  refine a_case 0 (fun h1 => ?_) (fun h1n_0 => ?_)
  · refine a_tsIn C0 44 dX6_many_1 (by decide) (by decide) rfl rfl ?_
    refine a_aload_n C0 0 dX6_many_44 rfl rfl ?_
    refine g_X6_7 C0 (lt_b rfl) rfl rfl dX6_many_45 ?_
    refine a_iconst C0 0 dX6_many_48 rfl ?_
    refine a_iald C0 0 (lt_b rfl) rfl (vq rfl) rfl dX6_many_49 ?_
    refine a_iret C0 hr dX6_many_50 ?_
    refine rt_ ?_
    unfold manS
    first
      | rw [if_neg h1n_0, if_neg h1n_1, if_neg h1n_2, if_neg h1n_3, if_neg h1n_4, if_neg h1n_5, if_neg h1n_6]
      | (rw [if_neg h1n_0, if_neg h1n_1, if_neg h1n_2, if_neg h1n_3, if_neg h1n_4, if_neg h1n_5, if_pos h1]; exact eZ)
      | (rw [if_neg h1n_0, if_neg h1n_1, if_neg h1n_2, if_neg h1n_3, if_neg h1n_4, if_pos h1]; exact eB)
      | (rw [if_neg h1n_0, if_neg h1n_1, if_neg h1n_2, if_neg h1n_3, if_pos h1]; exact e6)
      | rw [if_neg h1n_0, if_neg h1n_1, if_neg h1n_2, if_pos h1]
      | rw [if_neg h1n_0, if_neg h1n_1, if_pos h1]
      | (rw [if_neg h1n_0, if_pos h1, show mkM O S X 1 0 = P 0 8 from rp.n2.trans rp.n1.symm])
      | (rw [if_pos h1]; exact rp.n2.trans rp.n1.symm)
  refine a_case 1 (fun h1 => ?_) (fun h1n_1 => ?_)
  · refine a_tsIn C0 51 dX6_many_1 (by decide) (by decide) rfl rfl ?_
    refine a_aload_n C0 0 dX6_many_51 rfl rfl ?_
    refine g_X6_7 C0 (lt_b rfl) rfl rfl dX6_many_52 ?_
    refine a_iconst C0 0 dX6_many_55 rfl ?_
    refine a_iald C0 0 (lt_b rfl) rfl (vq rfl) rfl dX6_many_56 ?_
    refine a_aload_n C0 0 dX6_many_57 rfl rfl ?_
    refine a_callV _ 0 C0 EM.refl (c_X6_coldOnes l G rp  rfl) u_c_X6_coldOnes u_m_X6_230 u_im_X6_coldOnes u_se_X6_coldOnes u_in_X6 hy_X6_coldOnes rfl (lt_b rfl) rfl (hRk rfl) rfl rfl (le_b rfl) dX6_many_58 (k_ro EM.refl ?_)
    refine a_callS _ 1 C0 EM.z (c_X6_size l G (orC_in _ rp.t8)) u_c_X6_size u_m_X6_170 u_st_X6_size u_in_X6 hy_X6_size.2 (hRk rfl) rfl rfl (le_b rfl) dX6_many_61 (k_ro EM.z ?_)
    refine a_isub C0 dX6_many_64 ?_
    refine a_iret C0 hr dX6_many_65 ?_
    refine rt_ ?_
    unfold manS
    first
      | rw [if_neg h1n_0, if_neg h1n_1, if_neg h1n_2, if_neg h1n_3, if_neg h1n_4, if_neg h1n_5, if_neg h1n_6]
      | (rw [if_neg h1n_0, if_neg h1n_1, if_neg h1n_2, if_neg h1n_3, if_neg h1n_4, if_neg h1n_5, if_pos h1]; exact eZ)
      | (rw [if_neg h1n_0, if_neg h1n_1, if_neg h1n_2, if_neg h1n_3, if_neg h1n_4, if_pos h1]; exact eB)
      | (rw [if_neg h1n_0, if_neg h1n_1, if_neg h1n_2, if_neg h1n_3, if_pos h1]; exact e6)
      | rw [if_neg h1n_0, if_neg h1n_1, if_neg h1n_2, if_pos h1]
      | rw [if_neg h1n_0, if_neg h1n_1, if_pos h1]
      | (rw [if_neg h1n_0, if_pos h1, show mkM O S X 1 0 = P 0 8 from rp.n2.trans rp.n1.symm])
      | (rw [if_pos h1]; exact rp.n2.trans rp.n1.symm)
  refine a_case 2 (fun h1 => ?_) (fun h1n_2 => ?_)
  · refine a_tsIn C0 66 dX6_many_1 (by decide) (by decide) rfl rfl ?_
    refine a_aload_n C0 0 dX6_many_66 rfl rfl ?_
    refine a_callV _ 0 C0 EM.refl (c_X6_housesInUse l G rp  rfl) u_c_X6_housesInUse u_m_X6_224 u_im_X6_housesInUse u_se_X6_housesInUse u_in_X6 hy_X6_housesInUse rfl (lt_b rfl) rfl (hRk rfl) rfl rfl (le_b rfl) dX6_many_67 (k_ro EM.refl ?_)
    refine a_callS _ 1 C0 EM.z (c_X6_size l G (orP_in _ rp.atw)) u_c_X6_size u_m_X6_170 u_st_X6_size u_in_X6 hy_X6_size.2 (hRk rfl) rfl rfl (le_b rfl) dX6_many_70 (k_ro EM.z ?_)
    refine a_iret C0 hr dX6_many_73 ?_
    refine rt_ ?_
    unfold manS
    first
      | rw [if_neg h1n_0, if_neg h1n_1, if_neg h1n_2, if_neg h1n_3, if_neg h1n_4, if_neg h1n_5, if_neg h1n_6]
      | (rw [if_neg h1n_0, if_neg h1n_1, if_neg h1n_2, if_neg h1n_3, if_neg h1n_4, if_neg h1n_5, if_pos h1]; exact eZ)
      | (rw [if_neg h1n_0, if_neg h1n_1, if_neg h1n_2, if_neg h1n_3, if_neg h1n_4, if_pos h1]; exact eB)
      | (rw [if_neg h1n_0, if_neg h1n_1, if_neg h1n_2, if_neg h1n_3, if_pos h1]; exact e6)
      | rw [if_neg h1n_0, if_neg h1n_1, if_neg h1n_2, if_pos h1]
      | rw [if_neg h1n_0, if_neg h1n_1, if_pos h1]
      | (rw [if_neg h1n_0, if_pos h1, show mkM O S X 1 0 = P 0 8 from rp.n2.trans rp.n1.symm])
      | (rw [if_pos h1]; exact rp.n2.trans rp.n1.symm)
  refine a_case 3 (fun h1 => ?_) (fun h1n_3 => ?_)
  · refine a_tsIn C0 74 dX6_many_1 (by decide) (by decide) rfl rfl ?_
    refine a_aload_n C0 0 dX6_many_74 rfl rfl ?_
    refine a_callV _ 0 C0 EM.refl (c_X6_boxes l G rp  rfl) u_c_X6_boxes u_m_X6_227 u_im_X6_boxes u_se_X6_boxes u_in_X6 hy_X6_boxes rfl (lt_b rfl) rfl (hRk rfl) rfl rfl (le_b rfl) dX6_many_75 (k_ro EM.refl ?_)
    refine a_callS _ 1 C0 EM.z (c_X6_size l G rp.bxw) u_c_X6_size u_m_X6_170 u_st_X6_size u_in_X6 hy_X6_size.2 (hRk rfl) rfl rfl (le_b rfl) dX6_many_78 (k_ro EM.z ?_)
    refine a_iret C0 hr dX6_many_81 ?_
    refine rt_ ?_
    unfold manS
    first
      | rw [if_neg h1n_0, if_neg h1n_1, if_neg h1n_2, if_neg h1n_3, if_neg h1n_4, if_neg h1n_5, if_neg h1n_6]
      | (rw [if_neg h1n_0, if_neg h1n_1, if_neg h1n_2, if_neg h1n_3, if_neg h1n_4, if_neg h1n_5, if_pos h1]; exact eZ)
      | (rw [if_neg h1n_0, if_neg h1n_1, if_neg h1n_2, if_neg h1n_3, if_neg h1n_4, if_pos h1]; exact eB)
      | (rw [if_neg h1n_0, if_neg h1n_1, if_neg h1n_2, if_neg h1n_3, if_pos h1]; exact e6)
      | rw [if_neg h1n_0, if_neg h1n_1, if_neg h1n_2, if_pos h1]
      | rw [if_neg h1n_0, if_neg h1n_1, if_pos h1]
      | (rw [if_neg h1n_0, if_pos h1, show mkM O S X 1 0 = P 0 8 from rp.n2.trans rp.n1.symm])
      | (rw [if_pos h1]; exact rp.n2.trans rp.n1.symm)
  refine a_case 4 (fun h1 => ?_) (fun h1n_4 => ?_)
  · refine a_tsIn C0 82 dX6_many_1 (by decide) (by decide) rfl rfl ?_
    refine a_aload_n C0 0 dX6_many_82 rfl rfl ?_
    refine g_X6_151 C0 (lt_b rfl) rfl rfl dX6_many_83 ?_
    refine a_iret C0 hr dX6_many_86 ?_
    refine rt_ ?_
    unfold manS
    first
      | rw [if_neg h1n_0, if_neg h1n_1, if_neg h1n_2, if_neg h1n_3, if_neg h1n_4, if_neg h1n_5, if_neg h1n_6]
      | (rw [if_neg h1n_0, if_neg h1n_1, if_neg h1n_2, if_neg h1n_3, if_neg h1n_4, if_neg h1n_5, if_pos h1]; exact eZ)
      | (rw [if_neg h1n_0, if_neg h1n_1, if_neg h1n_2, if_neg h1n_3, if_neg h1n_4, if_pos h1]; exact eB)
      | (rw [if_neg h1n_0, if_neg h1n_1, if_neg h1n_2, if_neg h1n_3, if_pos h1]; exact e6)
      | rw [if_neg h1n_0, if_neg h1n_1, if_neg h1n_2, if_pos h1]
      | rw [if_neg h1n_0, if_neg h1n_1, if_pos h1]
      | (rw [if_neg h1n_0, if_pos h1, show mkM O S X 1 0 = P 0 8 from rp.n2.trans rp.n1.symm])
      | (rw [if_pos h1]; exact rp.n2.trans rp.n1.symm)
  refine a_case 5 (fun h1 => ?_) (fun h1n_5 => ?_)
  · refine a_tsIn C0 87 dX6_many_1 (by decide) (by decide) rfl rfl ?_
    refine a_aload_n C0 0 dX6_many_87 rfl rfl ?_
    refine g_X6_58 C0 (lt_b rfl) rfl rfl dX6_many_88 ?_
    refine a_iret C0 hr dX6_many_91 ?_
    refine rt_ ?_
    unfold manS
    first
      | rw [if_neg h1n_0, if_neg h1n_1, if_neg h1n_2, if_neg h1n_3, if_neg h1n_4, if_neg h1n_5, if_neg h1n_6]
      | (rw [if_neg h1n_0, if_neg h1n_1, if_neg h1n_2, if_neg h1n_3, if_neg h1n_4, if_neg h1n_5, if_pos h1]; exact eZ)
      | (rw [if_neg h1n_0, if_neg h1n_1, if_neg h1n_2, if_neg h1n_3, if_neg h1n_4, if_pos h1]; exact eB)
      | (rw [if_neg h1n_0, if_neg h1n_1, if_neg h1n_2, if_neg h1n_3, if_pos h1]; exact e6)
      | rw [if_neg h1n_0, if_neg h1n_1, if_neg h1n_2, if_pos h1]
      | rw [if_neg h1n_0, if_neg h1n_1, if_pos h1]
      | (rw [if_neg h1n_0, if_pos h1, show mkM O S X 1 0 = P 0 8 from rp.n2.trans rp.n1.symm])
      | (rw [if_pos h1]; exact rp.n2.trans rp.n1.symm)
  refine a_case 6 (fun h1 => ?_) (fun h1n_6 => ?_)
  · refine a_tsIn C0 92 dX6_many_1 (by decide) (by decide) rfl rfl ?_
    refine a_aload_n C0 0 dX6_many_92 rfl rfl ?_
    refine g_X6_299 C0 (lt_b rfl) rfl rfl dX6_many_93 ?_
    refine a_iret C0 hr dX6_many_96 ?_
    refine rt_ ?_
    unfold manS
    first
      | rw [if_neg h1n_0, if_neg h1n_1, if_neg h1n_2, if_neg h1n_3, if_neg h1n_4, if_neg h1n_5, if_neg h1n_6]
      | (rw [if_neg h1n_0, if_neg h1n_1, if_neg h1n_2, if_neg h1n_3, if_neg h1n_4, if_neg h1n_5, if_pos h1]; exact eZ)
      | (rw [if_neg h1n_0, if_neg h1n_1, if_neg h1n_2, if_neg h1n_3, if_neg h1n_4, if_pos h1]; exact eB)
      | (rw [if_neg h1n_0, if_neg h1n_1, if_neg h1n_2, if_neg h1n_3, if_pos h1]; exact e6)
      | rw [if_neg h1n_0, if_neg h1n_1, if_neg h1n_2, if_pos h1]
      | rw [if_neg h1n_0, if_neg h1n_1, if_pos h1]
      | (rw [if_neg h1n_0, if_pos h1, show mkM O S X 1 0 = P 0 8 from rp.n2.trans rp.n1.symm])
      | (rw [if_pos h1]; exact rp.n2.trans rp.n1.symm)
  refine a_tsOut C0 97 dX6_many_1 (by have t0 := lv_neT (a := 0) h1n_0 rfl; have t1 := lv_neT (a := 1) h1n_1 rfl; have t2 := lv_neT (a := 2) h1n_2 rfl; have t3 := lv_neT (a := 3) h1n_3 rfl; have t4 := lv_neT (a := 4) h1n_4 rfl; have t5 := lv_neT (a := 5) h1n_5 rfl; have t6 := lv_neT (a := 6) h1n_6 rfl; omega) rfl ?_
  refine a_iconst C0 (-1) dX6_many_97 rfl ?_
  refine a_iret C0 hr dX6_many_98 ?_
  refine rt_ ?_
  unfold manS
  first
    | rw [if_neg h1n_0, if_neg h1n_1, if_neg h1n_2, if_neg h1n_3, if_neg h1n_4, if_neg h1n_5, if_neg h1n_6]
    | (rw [if_neg h1n_0, if_neg h1n_1, if_neg h1n_2, if_neg h1n_3, if_neg h1n_4, if_neg h1n_5, if_pos h1]; exact eZ)
    | (rw [if_neg h1n_0, if_neg h1n_1, if_neg h1n_2, if_neg h1n_3, if_neg h1n_4, if_pos h1]; exact eB)
    | (rw [if_neg h1n_0, if_neg h1n_1, if_neg h1n_2, if_neg h1n_3, if_pos h1]; exact e6)
    | rw [if_neg h1n_0, if_neg h1n_1, if_neg h1n_2, if_pos h1]
    | rw [if_neg h1n_0, if_neg h1n_1, if_pos h1]
    | (rw [if_neg h1n_0, if_pos h1, show mkM O S X 1 0 = P 0 8 from rp.n2.trans rp.n1.symm])
    | (rw [if_pos h1]; exact rp.n2.trans rp.n1.symm)
