set_option maxRecDepth 100000 in
set_option maxHeartbeats 4000000 in
theorem c_X6_cools (l : Launch) (G : GE) {ad : Nat → Nat} {M : WM} {O S : RW} {X : WM} {P : WM} {nT mm : Nat} (rp : RP P S nT mm) {x : Int32} {t : Nat} (hx : IX x t nT) (hM : M = mkM O S X)  : CT l G yX6_cools cX6_cools 3 (some .int) 1 [.ref (ad 0), .int x] 14 ad (shM G ad) M (PI (fun r u => r = coolsP P t ∧ u = mkM O S X)) := by
  refine CT.of (own := RX6) rfl rfl (le_b rfl) fun p e s m args below meth c A C0 hr => ?_
  refine AW.lo (ls2 := [(0, _), (1, _)]) rfl ?_
  subst hM
  refine a_aload_n C0 0 dX6_cools_0 rfl rfl ?_
  refine g_X6_7 C0 (lt_b rfl) rfl rfl dX6_cools_1 ?_
  refine a_iconst C0 3 dX6_cools_4 rfl ?_
  refine a_iald C0 3 (lt_b rfl) rfl (vq rfl) rfl dX6_cools_5 ?_
  refine a_istore_n (ls2 := [(2, _), (0, _), (1, _)]) C0 dX6_cools_6 rfl (lt_b rfl) rfl ?_
  refine a_aload_n C0 1 dX6_cools_7 rfl rfl ?_
  refine a_iload_n C0 2 dX6_cools_8 rfl rfl ?_
  refine a_iconst C0 0 dX6_cools_9 rfl ?_
  refine a_callV _ 2 C0 EM.refl (c_X6_its l G (c := 4) rp hx ⟨vq rfl, rfl⟩ rfl rfl) u_c_X6_its u_m_X6_167 u_im_X6_its u_se_X6_its u_in_X6 hy_X6_its rfl (lt_b rfl) rfl (hRk rfl) rfl rfl (le_b rfl) dX6_cools_10 (k_ro EM.refl ?_)
  refine a_case 1 (fun h13 => ?_) (fun h13n_1 => ?_)
  · refine a_tsIn C0 48 dX6_cools_13 (by decide) (by decide) rfl rfl ?_
    refine a_iload_n C0 0 dX6_cools_48 rfl rfl ?_
    refine a_iconst C0 1 dX6_cools_49 rfl ?_
    refine a_isub C0 dX6_cools_50 ?_
    refine a_iret C0 hr dX6_cools_51 ?_
    refine rt_ ?_
    have l0 : mkM O S X 1 3 = P 1 0 := rp.law 0 (by decide)
    have l1 : mkM O S X 1 4 = P 1 1 := rp.law 1 (by decide)
    have l2 : mkM O S X 1 5 = P 1 2 := rp.law 2 (by decide)
    unfold coolsP
    first
      | rw [if_neg h13n_1, if_neg h13n_2, if_neg h13n_3, if_neg h13n_4, if_neg h13n_5, l0]
      | (rw [l2] at h93
         first
           | rw [if_neg h13n_1, if_neg h13n_2, if_neg h13n_3, if_neg h13n_4, if_pos h13, if_neg h93]
           | rw [if_neg h13n_1, if_neg h13n_2, if_neg h13n_3, if_neg h13n_4, if_pos h13, if_pos h93, l0])
      | rw [if_neg h13n_1, if_neg h13n_2, if_neg h13n_3, if_pos h13, l0, Int32.mul_comm]
      | rw [if_neg h13n_1, if_neg h13n_2, if_pos h13, l0, l1]
      | rw [if_neg h13n_1, if_pos h13, l0, Int32.mul_comm]
      | rw [if_pos h13, l0]
  refine a_case 2 (fun h13 => ?_) (fun h13n_2 => ?_)
  · refine a_tsIn C0 52 dX6_cools_13 (by decide) (by decide) rfl rfl ?_
    refine a_iconst C0 2 dX6_cools_52 rfl ?_
    refine a_iload_n C0 0 dX6_cools_53 rfl rfl ?_
    refine a_imul C0 dX6_cools_54 ?_
    refine a_iret C0 hr dX6_cools_55 ?_
    refine rt_ ?_
    have l0 : mkM O S X 1 3 = P 1 0 := rp.law 0 (by decide)
    have l1 : mkM O S X 1 4 = P 1 1 := rp.law 1 (by decide)
    have l2 : mkM O S X 1 5 = P 1 2 := rp.law 2 (by decide)
    unfold coolsP
    first
      | rw [if_neg h13n_1, if_neg h13n_2, if_neg h13n_3, if_neg h13n_4, if_neg h13n_5, l0]
      | (rw [l2] at h93
         first
           | rw [if_neg h13n_1, if_neg h13n_2, if_neg h13n_3, if_neg h13n_4, if_pos h13, if_neg h93]
           | rw [if_neg h13n_1, if_neg h13n_2, if_neg h13n_3, if_neg h13n_4, if_pos h13, if_pos h93, l0])
      | rw [if_neg h13n_1, if_neg h13n_2, if_neg h13n_3, if_pos h13, l0, Int32.mul_comm]
      | rw [if_neg h13n_1, if_neg h13n_2, if_pos h13, l0, l1]
      | rw [if_neg h13n_1, if_pos h13, l0, Int32.mul_comm]
      | rw [if_pos h13, l0]
  refine a_case 3 (fun h13 => ?_) (fun h13n_3 => ?_)
  · refine a_tsIn C0 56 dX6_cools_13 (by decide) (by decide) rfl rfl ?_
    refine a_iload_n C0 0 dX6_cools_56 rfl rfl ?_
    refine a_iconst C0 1 dX6_cools_57 rfl ?_
    refine a_isub C0 dX6_cools_58 ?_
    refine a_aload_n C0 1 dX6_cools_59 rfl rfl ?_
    refine g_X6_7 C0 (lt_b rfl) rfl rfl dX6_cools_60 ?_
    refine a_iconst C0 4 dX6_cools_63 rfl ?_
    refine a_iald C0 4 (lt_b rfl) rfl (vq rfl) rfl dX6_cools_64 ?_
    refine a_isub C0 dX6_cools_65 ?_
    refine a_iret C0 hr dX6_cools_66 ?_
    refine rt_ ?_
    have l0 : mkM O S X 1 3 = P 1 0 := rp.law 0 (by decide)
    have l1 : mkM O S X 1 4 = P 1 1 := rp.law 1 (by decide)
    have l2 : mkM O S X 1 5 = P 1 2 := rp.law 2 (by decide)
    unfold coolsP
    first
      | rw [if_neg h13n_1, if_neg h13n_2, if_neg h13n_3, if_neg h13n_4, if_neg h13n_5, l0]
      | (rw [l2] at h93
         first
           | rw [if_neg h13n_1, if_neg h13n_2, if_neg h13n_3, if_neg h13n_4, if_pos h13, if_neg h93]
           | rw [if_neg h13n_1, if_neg h13n_2, if_neg h13n_3, if_neg h13n_4, if_pos h13, if_pos h93, l0])
      | rw [if_neg h13n_1, if_neg h13n_2, if_neg h13n_3, if_pos h13, l0, Int32.mul_comm]
      | rw [if_neg h13n_1, if_neg h13n_2, if_pos h13, l0, l1]
      | rw [if_neg h13n_1, if_pos h13, l0, Int32.mul_comm]
      | rw [if_pos h13, l0]
  refine a_case 4 (fun h13 => ?_) (fun h13n_4 => ?_)
  · refine a_tsIn C0 67 dX6_cools_13 (by decide) (by decide) rfl rfl ?_
    refine a_iconst C0 2 dX6_cools_67 rfl ?_
    refine a_iload_n C0 0 dX6_cools_68 rfl rfl ?_
    refine a_imul C0 dX6_cools_69 ?_
    refine a_aload_n C0 1 dX6_cools_70 rfl rfl ?_
    refine a_iload_n C0 2 dX6_cools_71 rfl rfl ?_
    refine a_iconst C0 3 dX6_cools_72 rfl ?_
    refine a_callV _ 2 C0 EM.refl (c_X6_its l G (c := 7) rp hx ⟨vq rfl, rfl⟩ rfl rfl) u_c_X6_its u_m_X6_167 u_im_X6_its u_se_X6_its u_in_X6 hy_X6_its rfl (lt_b rfl) rfl (hRk rfl) rfl rfl (le_b rfl) dX6_cools_73 (k_ro EM.refl ?_)
    refine a_callS _ 1 C0 EM.z (c_X6_size l G (rp.hdw t hx.lt)) u_c_X6_size u_m_X6_170 u_st_X6_size u_in_X6 hy_X6_size.2 (hRk rfl) rfl rfl (le_b rfl) dX6_cools_76 (k_ro EM.z ?_)
    refine a_iadd C0 dX6_cools_79 ?_
    refine a_iret C0 hr dX6_cools_80 ?_
    refine rt_ ?_
    have l0 : mkM O S X 1 3 = P 1 0 := rp.law 0 (by decide)
    have l1 : mkM O S X 1 4 = P 1 1 := rp.law 1 (by decide)
    have l2 : mkM O S X 1 5 = P 1 2 := rp.law 2 (by decide)
    unfold coolsP
    first
      | rw [if_neg h13n_1, if_neg h13n_2, if_neg h13n_3, if_neg h13n_4, if_neg h13n_5, l0]
      | (rw [l2] at h93
         first
           | rw [if_neg h13n_1, if_neg h13n_2, if_neg h13n_3, if_neg h13n_4, if_pos h13, if_neg h93]
           | rw [if_neg h13n_1, if_neg h13n_2, if_neg h13n_3, if_neg h13n_4, if_pos h13, if_pos h93, l0])
      | rw [if_neg h13n_1, if_neg h13n_2, if_neg h13n_3, if_pos h13, l0, Int32.mul_comm]
      | rw [if_neg h13n_1, if_neg h13n_2, if_pos h13, l0, l1]
      | rw [if_neg h13n_1, if_pos h13, l0, Int32.mul_comm]
      | rw [if_pos h13, l0]
  refine a_case 5 (fun h13 => ?_) (fun h13n_5 => ?_)
  · refine a_tsIn C0 81 dX6_cools_13 (by decide) (by decide) rfl rfl ?_
    refine a_aload_n C0 1 dX6_cools_81 rfl rfl ?_
    refine a_iload_n C0 2 dX6_cools_82 rfl rfl ?_
    refine a_iconst C0 1 dX6_cools_83 rfl ?_
    refine a_callV _ 2 C0 EM.refl (c_X6_its l G (c := 5) rp hx ⟨vq rfl, rfl⟩ rfl rfl) u_c_X6_its u_m_X6_167 u_im_X6_its u_se_X6_its u_in_X6 hy_X6_its rfl (lt_b rfl) rfl (hRk rfl) rfl rfl (le_b rfl) dX6_cools_84 (k_ro EM.refl ?_)
    refine a_aload_n C0 1 dX6_cools_87 rfl rfl ?_
    refine g_X6_7 C0 (lt_b rfl) rfl rfl dX6_cools_88 ?_
    refine a_iconst C0 5 dX6_cools_91 rfl ?_
    refine a_iald C0 5 (lt_b rfl) rfl (vq rfl) rfl dX6_cools_92 ?_
    refine a_icmp_le C0 100 dX6_cools_93 rfl (fun h93 => ?_) (fun h93 => ?_)
    · refine a_iload_n C0 0 dX6_cools_100 rfl rfl ?_
      refine a_iret C0 hr dX6_cools_101 ?_
      refine rt_ ?_
      have l0 : mkM O S X 1 3 = P 1 0 := rp.law 0 (by decide)
      have l1 : mkM O S X 1 4 = P 1 1 := rp.law 1 (by decide)
      have l2 : mkM O S X 1 5 = P 1 2 := rp.law 2 (by decide)
      unfold coolsP
      first
        | rw [if_neg h13n_1, if_neg h13n_2, if_neg h13n_3, if_neg h13n_4, if_neg h13n_5, l0]
        | (rw [l2] at h93
           first
             | rw [if_neg h13n_1, if_neg h13n_2, if_neg h13n_3, if_neg h13n_4, if_pos h13, if_neg h93]
             | rw [if_neg h13n_1, if_neg h13n_2, if_neg h13n_3, if_neg h13n_4, if_pos h13, if_pos h93, l0])
        | rw [if_neg h13n_1, if_neg h13n_2, if_neg h13n_3, if_pos h13, l0, Int32.mul_comm]
        | rw [if_neg h13n_1, if_neg h13n_2, if_pos h13, l0, l1]
        | rw [if_neg h13n_1, if_pos h13, l0, Int32.mul_comm]
        | rw [if_pos h13, l0]
    · refine a_iconst C0 (-1) dX6_cools_96 rfl ?_
      refine a_goto C0 101 dX6_cools_97 rfl ?_
      refine a_iret C0 hr dX6_cools_101 ?_
      refine rt_ ?_
      have l0 : mkM O S X 1 3 = P 1 0 := rp.law 0 (by decide)
      have l1 : mkM O S X 1 4 = P 1 1 := rp.law 1 (by decide)
      have l2 : mkM O S X 1 5 = P 1 2 := rp.law 2 (by decide)
      unfold coolsP
      first
        | rw [if_neg h13n_1, if_neg h13n_2, if_neg h13n_3, if_neg h13n_4, if_neg h13n_5, l0]
        | (rw [l2] at h93
           first
             | rw [if_neg h13n_1, if_neg h13n_2, if_neg h13n_3, if_neg h13n_4, if_pos h13, if_neg h93]
             | rw [if_neg h13n_1, if_neg h13n_2, if_neg h13n_3, if_neg h13n_4, if_pos h13, if_pos h93, l0])
        | rw [if_neg h13n_1, if_neg h13n_2, if_neg h13n_3, if_pos h13, l0, Int32.mul_comm]
        | rw [if_neg h13n_1, if_neg h13n_2, if_pos h13, l0, l1]
        | rw [if_neg h13n_1, if_pos h13, l0, Int32.mul_comm]
        | rw [if_pos h13, l0]
  refine a_tsOut C0 102 dX6_cools_13 (by have t0 := lv_neT (a := 1) h13n_1 rfl; have t1 := lv_neT (a := 2) h13n_2 rfl; have t2 := lv_neT (a := 3) h13n_3 rfl; have t3 := lv_neT (a := 4) h13n_4 rfl; have t4 := lv_neT (a := 5) h13n_5 rfl; omega) rfl ?_
  refine a_iload_n C0 0 dX6_cools_102 rfl rfl ?_
  refine a_iret C0 hr dX6_cools_103 ?_
  refine rt_ ?_
  have l0 : mkM O S X 1 3 = P 1 0 := rp.law 0 (by decide)
  have l1 : mkM O S X 1 4 = P 1 1 := rp.law 1 (by decide)
  have l2 : mkM O S X 1 5 = P 1 2 := rp.law 2 (by decide)
  unfold coolsP
  first
    | rw [if_neg h13n_1, if_neg h13n_2, if_neg h13n_3, if_neg h13n_4, if_neg h13n_5, l0]
    | (rw [l2] at h93
       first
         | rw [if_neg h13n_1, if_neg h13n_2, if_neg h13n_3, if_neg h13n_4, if_pos h13, if_neg h93]
         | rw [if_neg h13n_1, if_neg h13n_2, if_neg h13n_3, if_neg h13n_4, if_pos h13, if_pos h93, l0])
    | rw [if_neg h13n_1, if_neg h13n_2, if_neg h13n_3, if_pos h13, l0, Int32.mul_comm]
    | rw [if_neg h13n_1, if_neg h13n_2, if_pos h13, l0, l1]
    | rw [if_neg h13n_1, if_pos h13, l0, Int32.mul_comm]
    | rw [if_pos h13, l0]

theorem nI_div {a b : Nat} (ha : a < 2 ^ 31) (hb : b < 2 ^ 31) : nI a / nI b = nI (a / b) := by
  have hab : a / b ≤ a := Nat.div_le_self a b
  refine i32_om ?_
  rw [Int32.toInt_div_of_ne_right _ _ (fun q => by
    have q := congrArg Int32.toInt q
    rw [nI_toInt hb] at q
    have q : (b : Int) = -1 := q
    omega), nI_toInt ha, nI_toInt hb, nI_toInt (by omega)]
  exact (Int.ofNat_tdiv a b).symm
theorem rm_nI {a b : Nat} (ha : a < 2 ^ 31) (hb : b < 2 ^ 31) : rm (nI a) (nI b) = nI (a % b) := by
  have h := Nat.mod_add_div a b
  have e : nI a = nI (a % b) + nI (a / b) * nI b := by
    rw [pk_mul, nI_add]
    congr 1
    rw [Nat.mul_comm] at h
    exact h.symm
  unfold rm
  rw [nI_div ha hb]
  refine Eq.trans (congrArg (fun q => q - nI (a / b) * nI b) e) ?_
  exact Int32.add_sub_cancel _ _
theorem rm2_t (mm : Nat) (h : mm < 2 ^ 31) : rm (nI mm) 2 = 0 ∨ rm (nI mm) 2 = 1 := by
  have e : rm (nI mm) 2 = nI (mm % 2) := rm_nI (b := 2) h (by decide)
  rw [e]
  rcases (show mm % 2 = 0 ∨ mm % 2 = 1 by omega) with q | q
  · exact Or.inl (by rw [q]; rfl)
  · exact Or.inr (by rw [q]; rfl)
theorem doors_2 {P : WM} {t mm : Nat} (h1 : P 0 9 = nI mm) (h : mm < 2 ^ 31) : ∃ d, d ≤ 2 ∧ doorsP P t = nI d := by
  unfold doorsP
  rw [h1]
  by_cases c2 : P 4 t = 2
  · exact ⟨2, by decide, if_pos c2⟩
  rw [if_neg c2]
  by_cases c3 : P 4 t = 3
  · exact ⟨2, by decide, if_pos c3⟩
  rw [if_neg c3]
  by_cases c4 : P 4 t = 4
  · rw [if_pos c4]
    rcases rm2_t mm h with q | q
    · exact ⟨2, by decide, by rw [q]; rfl⟩
    · exact ⟨1, by decide, by rw [q]; rfl⟩
  rw [if_neg c4]
  by_cases c5 : P 4 t = 5
  · rw [if_pos c5]
    by_cases c6 : rm (nI mm) 3 = 0
    · exact ⟨1, by decide, if_pos c6⟩
    · exact ⟨0, by decide, if_neg c6⟩
  · exact ⟨1, by decide, if_neg c5⟩

set_option maxRecDepth 100000 in
set_option maxHeartbeats 4000000 in
theorem c_X6_doors (l : Launch) (G : GE) {ad : Nat → Nat} {M : WM} {O S : RW} {X : WM} {P : WM} {nT mm : Nat} (rp : RP P S nT mm) {x : Int32} {t : Nat} (hx : IX x t nT) (hm : mm < 2 ^ 31) (hM : M = mkM O S X)  : CT l G yX6_doors cX6_doors 2 (some .int) 1 [.ref (ad 0), .int x] 14 ad (shM G ad) M (PI (fun r u => r = doorsP P t ∧ u = mkM O S X)) := by
  refine CT.of (own := RX6) rfl rfl (le_b rfl) fun p e s m args below meth c A C0 hr => ?_
  refine AW.lo (ls2 := [(0, _), (1, _)]) rfl ?_
  subst hM
  refine a_aload_n C0 0 dX6_doors_0 rfl rfl ?_
  refine a_iload_n C0 1 dX6_doors_1 rfl rfl ?_
  refine a_iconst C0 0 dX6_doors_2 rfl ?_
  refine a_callV _ 2 C0 EM.refl (c_X6_its l G (c := 4) rp hx ⟨vq rfl, rfl⟩ rfl rfl) u_c_X6_its u_m_X6_167 u_im_X6_its u_se_X6_its u_in_X6 hy_X6_its rfl (lt_b rfl) rfl (hRk rfl) rfl rfl (le_b rfl) dX6_doors_3 (k_ro EM.refl ?_)
  refine a_case 2 (fun h6 => ?_) (fun h6n_2 => ?_)
  · refine a_tsIn C0 36 dX6_doors_6 (by decide) (by decide) rfl rfl ?_
    refine a_iconst C0 2 dX6_doors_36 rfl ?_
    refine a_iret C0 hr dX6_doors_37 ?_
    refine rt_ ?_
    have l0 : mkM O S X 1 1 = nI mm := rp.m2
    unfold doorsP
    rw [rp.m1]
    first
      | rw [if_neg h6n_2, if_neg h6n_3, if_neg h6n_4, if_neg h6n_5]
      | (rw [l0] at h63
         first
           | (rw [if_neg h6n_2, if_neg h6n_3, if_neg h6n_4, if_pos h6]; exact (if_pos h63).symm)
           | (rw [if_neg h6n_2, if_neg h6n_3, if_neg h6n_4, if_pos h6]; exact (if_neg h63).symm))
      | (rw [l0] at h46
         rw [if_neg h6n_2, if_neg h6n_3, if_pos h6]
         first
           | (rw [show rm (nI mm) 2 = 0 from h46]; rfl)
           | (rw [(rm2_t mm hm).resolve_left h46]; rfl))
      | rw [if_neg h6n_2, if_pos h6]
      | rw [if_pos h6]
  refine a_case 3 (fun h6 => ?_) (fun h6n_3 => ?_)
  · refine a_tsIn C0 36 dX6_doors_6 (by decide) (by decide) rfl rfl ?_
    refine a_iconst C0 2 dX6_doors_36 rfl ?_
    refine a_iret C0 hr dX6_doors_37 ?_
    refine rt_ ?_
    have l0 : mkM O S X 1 1 = nI mm := rp.m2
    unfold doorsP
    rw [rp.m1]
    first
      | rw [if_neg h6n_2, if_neg h6n_3, if_neg h6n_4, if_neg h6n_5]
      | (rw [l0] at h63
         first
           | (rw [if_neg h6n_2, if_neg h6n_3, if_neg h6n_4, if_pos h6]; exact (if_pos h63).symm)
           | (rw [if_neg h6n_2, if_neg h6n_3, if_neg h6n_4, if_pos h6]; exact (if_neg h63).symm))
      | (rw [l0] at h46
         rw [if_neg h6n_2, if_neg h6n_3, if_pos h6]
         first
           | (rw [show rm (nI mm) 2 = 0 from h46]; rfl)
           | (rw [(rm2_t mm hm).resolve_left h46]; rfl))
      | rw [if_neg h6n_2, if_pos h6]
      | rw [if_pos h6]
  refine a_case 4 (fun h6 => ?_) (fun h6n_4 => ?_)
  · refine a_tsIn C0 38 dX6_doors_6 (by decide) (by decide) rfl rfl ?_
    refine a_aload_n C0 0 dX6_doors_38 rfl rfl ?_
    refine g_X6_7 C0 (lt_b rfl) rfl rfl dX6_doors_39 ?_
    refine a_iconst C0 1 dX6_doors_42 rfl ?_
    refine a_iald C0 1 (lt_b rfl) rfl (vq rfl) rfl dX6_doors_43 ?_
    refine a_iconst C0 2 dX6_doors_44 rfl ?_
    refine a_irem C0 dX6_doors_45 (by decide) ?_
    refine a_if_ne C0 53 dX6_doors_46 rfl (fun h46 => ?_) (fun h46 => ?_)
    · refine a_iconst C0 1 dX6_doors_53 rfl ?_
      refine a_iret C0 hr dX6_doors_54 ?_
      refine rt_ ?_
      have l0 : mkM O S X 1 1 = nI mm := rp.m2
      unfold doorsP
      rw [rp.m1]
      first
        | rw [if_neg h6n_2, if_neg h6n_3, if_neg h6n_4, if_neg h6n_5]
        | (rw [l0] at h63
           first
             | (rw [if_neg h6n_2, if_neg h6n_3, if_neg h6n_4, if_pos h6]; exact (if_pos h63).symm)
             | (rw [if_neg h6n_2, if_neg h6n_3, if_neg h6n_4, if_pos h6]; exact (if_neg h63).symm))
        | (rw [l0] at h46
           rw [if_neg h6n_2, if_neg h6n_3, if_pos h6]
           first
             | (rw [show rm (nI mm) 2 = 0 from h46]; rfl)
             | (rw [(rm2_t mm hm).resolve_left h46]; rfl))
        | rw [if_neg h6n_2, if_pos h6]
        | rw [if_pos h6]
    · refine a_iconst C0 2 dX6_doors_49 rfl ?_
      refine a_goto C0 54 dX6_doors_50 rfl ?_
      refine a_iret C0 hr dX6_doors_54 ?_
      refine rt_ ?_
      have l0 : mkM O S X 1 1 = nI mm := rp.m2
      unfold doorsP
      rw [rp.m1]
      first
        | rw [if_neg h6n_2, if_neg h6n_3, if_neg h6n_4, if_neg h6n_5]
        | (rw [l0] at h63
           first
             | (rw [if_neg h6n_2, if_neg h6n_3, if_neg h6n_4, if_pos h6]; exact (if_pos h63).symm)
             | (rw [if_neg h6n_2, if_neg h6n_3, if_neg h6n_4, if_pos h6]; exact (if_neg h63).symm))
        | (rw [l0] at h46
           rw [if_neg h6n_2, if_neg h6n_3, if_pos h6]
           first
             | (rw [show rm (nI mm) 2 = 0 from h46]; rfl)
             | (rw [(rm2_t mm hm).resolve_left h46]; rfl))
        | rw [if_neg h6n_2, if_pos h6]
        | rw [if_pos h6]
  refine a_case 5 (fun h6 => ?_) (fun h6n_5 => ?_)
  · refine a_tsIn C0 55 dX6_doors_6 (by decide) (by decide) rfl rfl ?_
    refine a_aload_n C0 0 dX6_doors_55 rfl rfl ?_
    refine g_X6_7 C0 (lt_b rfl) rfl rfl dX6_doors_56 ?_
    refine a_iconst C0 1 dX6_doors_59 rfl ?_
    refine a_iald C0 1 (lt_b rfl) rfl (vq rfl) rfl dX6_doors_60 ?_
    refine a_iconst C0 3 dX6_doors_61 rfl ?_
    refine a_irem C0 dX6_doors_62 (by decide) ?_
    refine a_if_ne C0 70 dX6_doors_63 rfl (fun h63 => ?_) (fun h63 => ?_)
    · refine a_iconst C0 0 dX6_doors_70 rfl ?_
      refine a_iret C0 hr dX6_doors_71 ?_
      refine rt_ ?_
      have l0 : mkM O S X 1 1 = nI mm := rp.m2
      unfold doorsP
      rw [rp.m1]
      first
        | rw [if_neg h6n_2, if_neg h6n_3, if_neg h6n_4, if_neg h6n_5]
        | (rw [l0] at h63
           first
             | (rw [if_neg h6n_2, if_neg h6n_3, if_neg h6n_4, if_pos h6]; exact (if_pos h63).symm)
             | (rw [if_neg h6n_2, if_neg h6n_3, if_neg h6n_4, if_pos h6]; exact (if_neg h63).symm))
        | (rw [l0] at h46
           rw [if_neg h6n_2, if_neg h6n_3, if_pos h6]
           first
             | (rw [show rm (nI mm) 2 = 0 from h46]; rfl)
             | (rw [(rm2_t mm hm).resolve_left h46]; rfl))
        | rw [if_neg h6n_2, if_pos h6]
        | rw [if_pos h6]
    · refine a_iconst C0 1 dX6_doors_66 rfl ?_
      refine a_goto C0 71 dX6_doors_67 rfl ?_
      refine a_iret C0 hr dX6_doors_71 ?_
      refine rt_ ?_
      have l0 : mkM O S X 1 1 = nI mm := rp.m2
      unfold doorsP
      rw [rp.m1]
      first
        | rw [if_neg h6n_2, if_neg h6n_3, if_neg h6n_4, if_neg h6n_5]
        | (rw [l0] at h63
           first
             | (rw [if_neg h6n_2, if_neg h6n_3, if_neg h6n_4, if_pos h6]; exact (if_pos h63).symm)
             | (rw [if_neg h6n_2, if_neg h6n_3, if_neg h6n_4, if_pos h6]; exact (if_neg h63).symm))
        | (rw [l0] at h46
           rw [if_neg h6n_2, if_neg h6n_3, if_pos h6]
           first
             | (rw [show rm (nI mm) 2 = 0 from h46]; rfl)
             | (rw [(rm2_t mm hm).resolve_left h46]; rfl))
        | rw [if_neg h6n_2, if_pos h6]
        | rw [if_pos h6]
  refine a_tsOut C0 72 dX6_doors_6 (by have t0 := lv_neT (a := 2) h6n_2 rfl; have t1 := lv_neT (a := 3) h6n_3 rfl; have t2 := lv_neT (a := 4) h6n_4 rfl; have t3 := lv_neT (a := 5) h6n_5 rfl; omega) rfl ?_
  refine a_iconst C0 1 dX6_doors_72 rfl ?_
  refine a_iret C0 hr dX6_doors_73 ?_
  refine rt_ ?_
  have l0 : mkM O S X 1 1 = nI mm := rp.m2
  unfold doorsP
  rw [rp.m1]
  first
    | rw [if_neg h6n_2, if_neg h6n_3, if_neg h6n_4, if_neg h6n_5]
    | (rw [l0] at h63
       first
         | (rw [if_neg h6n_2, if_neg h6n_3, if_neg h6n_4, if_pos h6]; exact (if_pos h63).symm)
         | (rw [if_neg h6n_2, if_neg h6n_3, if_neg h6n_4, if_pos h6]; exact (if_neg h63).symm))
    | (rw [l0] at h46
       rw [if_neg h6n_2, if_neg h6n_3, if_pos h6]
       first
         | (rw [show rm (nI mm) 2 = 0 from h46]; rfl)
         | (rw [(rm2_t mm hm).resolve_left h46]; rfl))
    | rw [if_neg h6n_2, if_pos h6]
    | rw [if_pos h6]
set_option maxRecDepth 100000 in
set_option maxHeartbeats 4000000 in
theorem c_X6_heatOfAll (l : Launch) (G : GE) {ad : Nat → Nat} {M : WM} {O S : RW} {X : WM} {P : WM} {nT mm : Nat} (rp : RP P S nT mm) (hM : M = mkM O S X)  : CT l G yX6_heatOfAll cX6_heatOfAll 3 (some .int) 1 [.ref (ad 0)] 14 ad (shM G ad) M (PI (fun r u => r = sumP (P 5) nT ∧ u = mkM O S X)) := by
  refine CT.of (own := RX6) rfl rfl (le_b rfl) fun p e s m args below meth c A C0 hr => ?_
  refine AW.lo (ls2 := [(0, _)]) rfl ?_
  subst hM
  have t8 := rp.t8
  have lp : ∀ (n : Nat) (i : Nat) (a xi : Int32), nT - i < n → (i ≤ nT) → (xi = nI i) → (a = sumP (P 5) i) → AW p l e (rmk 1) s m args below meth c G A 14 ad (shM G ad) 3 0 0 (MQ below (CQ G 14 ad (shM G ad) A (PI (fun r u => r = sumP (P 5) nT ∧ u = mkM O S X))) args s 0 0 A) 4 [(0, .ref (ad 0)), (1, .int a), (2, .int xi)] [] (mkM O S X) := by
    intro n
    induction n with
    | zero =>
      intro i a xi hn
      exact absurd hn (Nat.not_lt_zero _)
    | succ n ih =>
      intro i a xi hn hi hxi ha
      refine a_iload_n C0 2 dX6_heatOfAll_4 rfl rfl ?_
      refine a_aload_n C0 0 dX6_heatOfAll_5 rfl rfl ?_
      refine g_X6_7 C0 (lt_b rfl) rfl rfl dX6_heatOfAll_6 ?_
      refine a_iconst C0 0 dX6_heatOfAll_9 rfl ?_
      refine a_iald C0 0 (lt_b rfl) rfl (vq rfl) rfl dX6_heatOfAll_10 ?_
      refine a_icmp_ge C0 29 dX6_heatOfAll_11 rfl (fun h11 => ?_) (fun h11 => ?_)
      · refine a_iload_n C0 1 dX6_heatOfAll_29 rfl rfl ?_
        refine a_iret C0 hr dX6_heatOfAll_30 ?_
        have e : i = nT := Nat.le_antisymm hi (i_ge hxi rp.n2 (by omega) (by omega) h11)
        subst e
        exact rt_ ha
      · refine a_iload_n C0 1 dX6_heatOfAll_14 rfl rfl ?_
        refine a_aload_n C0 0 dX6_heatOfAll_15 rfl rfl ?_
        refine a_iload_n C0 2 dX6_heatOfAll_16 rfl rfl ?_
        refine a_iconst C0 1 dX6_heatOfAll_17 rfl ?_
        have hlt : i < nT := i_lt hxi rp.n2 (by omega) (by omega) h11
        have hx : IX xi i nT := IX.eqn hxi hlt (by omega)
        refine a_callV _ 2 C0 EM.refl (c_X6_its l G (c := 5) rp hx ⟨vq rfl, rfl⟩ rfl rfl) u_c_X6_its u_m_X6_167 u_im_X6_its u_se_X6_its u_in_X6 hy_X6_its rfl (lt_b rfl) rfl (hRk rfl) rfl rfl (le_b rfl) dX6_heatOfAll_18 (k_ro EM.refl ?_)
        refine a_iadd C0 dX6_heatOfAll_21 ?_
        refine a_istore_n (ls2 := [(1, _), (0, _), (2, _)]) C0 dX6_heatOfAll_22 rfl (lt_b rfl) rfl ?_
        refine a_iinc (ls2 := [(2, _), (1, _), (0, _)]) C0 2 1 dX6_heatOfAll_23 rfl rfl (lt_b rfl) rfl ?_
        refine a_goto C0 4 dX6_heatOfAll_26 rfl ?_
        refine AW.sub (ls2 := [(0, _), (1, _), (2, _)]) [2, 1, 0] rfl ?_
        exact ih (i + 1) _ _ (by omega) hlt (by rw [hxi, nI_1]) (by rw [ha]; rfl)
  refine a_iconst C0 0 dX6_heatOfAll_0 rfl ?_
  refine a_istore_n (ls2 := [(1, _), (0, _)]) C0 dX6_heatOfAll_1 rfl (lt_b rfl) rfl ?_
  refine a_iconst C0 0 dX6_heatOfAll_2 rfl ?_
  refine a_istore_n (ls2 := [(2, _), (1, _), (0, _)]) C0 dX6_heatOfAll_3 rfl (lt_b rfl) rfl ?_
  refine AW.sub (ls2 := [(0, _), (1, _), (2, _)]) [2, 1, 0] rfl ?_
  exact lp (nT + 1) 0 _ _ (by omega) (Nat.zero_le _) rfl rfl
set_option maxRecDepth 100000 in
set_option maxHeartbeats 4000000 in
theorem c_X6_heardOfAll (l : Launch) (G : GE) {ad : Nat → Nat} {M : WM} {O S : RW} {X : WM} {P : WM} {nT mm : Nat} (rp : RP P S nT mm) (hM : M = mkM O S X)  : CT l G yX6_heardOfAll cX6_heardOfAll 3 (some .int) 1 [.ref (ad 0)] 14 ad (shM G ad) M (PI (fun r u => r = sumP (fun k => bcS (P 7 k)) nT ∧ u = mkM O S X)) := by
  refine CT.of (own := RX6) rfl rfl (le_b rfl) fun p e s m args below meth c A C0 hr => ?_
  refine AW.lo (ls2 := [(0, _)]) rfl ?_
  subst hM
  have t8 := rp.t8
  have lp : ∀ (n : Nat) (i : Nat) (a xi : Int32), nT - i < n → (i ≤ nT) → (xi = nI i) → (a = sumP (fun k => bcS (P 7 k)) i) → AW p l e (rmk 1) s m args below meth c G A 14 ad (shM G ad) 3 0 0 (MQ below (CQ G 14 ad (shM G ad) A (PI (fun r u => r = sumP (fun k => bcS (P 7 k)) nT ∧ u = mkM O S X))) args s 0 0 A) 4 [(0, .ref (ad 0)), (1, .int a), (2, .int xi)] [] (mkM O S X) := by
    intro n
    induction n with
    | zero =>
      intro i a xi hn
      exact absurd hn (Nat.not_lt_zero _)
    | succ n ih =>
      intro i a xi hn hi hxi ha
      refine a_iload_n C0 2 dX6_heardOfAll_4 rfl rfl ?_
      refine a_aload_n C0 0 dX6_heardOfAll_5 rfl rfl ?_
      refine g_X6_7 C0 (lt_b rfl) rfl rfl dX6_heardOfAll_6 ?_
      refine a_iconst C0 0 dX6_heardOfAll_9 rfl ?_
      refine a_iald C0 0 (lt_b rfl) rfl (vq rfl) rfl dX6_heardOfAll_10 ?_
      refine a_icmp_ge C0 32 dX6_heardOfAll_11 rfl (fun h11 => ?_) (fun h11 => ?_)
      · refine a_iload_n C0 1 dX6_heardOfAll_32 rfl rfl ?_
        refine a_iret C0 hr dX6_heardOfAll_33 ?_
        have e : i = nT := Nat.le_antisymm hi (i_ge hxi rp.n2 (by omega) (by omega) h11)
        subst e
        exact rt_ ha
      · refine a_iload_n C0 1 dX6_heardOfAll_14 rfl rfl ?_
        refine a_aload_n C0 0 dX6_heardOfAll_15 rfl rfl ?_
        refine a_iload_n C0 2 dX6_heardOfAll_16 rfl rfl ?_
        refine a_iconst C0 3 dX6_heardOfAll_17 rfl ?_
        have hlt : i < nT := i_lt hxi rp.n2 (by omega) (by omega) h11
        have hx : IX xi i nT := IX.eqn hxi hlt (by omega)
        refine a_callV _ 2 C0 EM.refl (c_X6_its l G (c := 7) rp hx ⟨vq rfl, rfl⟩ rfl rfl) u_c_X6_its u_m_X6_167 u_im_X6_its u_se_X6_its u_in_X6 hy_X6_its rfl (lt_b rfl) rfl (hRk rfl) rfl rfl (le_b rfl) dX6_heardOfAll_18 (k_ro EM.refl ?_)
        refine a_callS _ 1 C0 EM.z (c_X6_size l G (rp.hdw i hlt)) u_c_X6_size u_m_X6_170 u_st_X6_size u_in_X6 hy_X6_size.2 (hRk rfl) rfl rfl (le_b rfl) dX6_heardOfAll_21 (k_ro EM.z ?_)
        refine a_iadd C0 dX6_heardOfAll_24 ?_
        refine a_istore_n (ls2 := [(1, _), (0, _), (2, _)]) C0 dX6_heardOfAll_25 rfl (lt_b rfl) rfl ?_
        refine a_iinc (ls2 := [(2, _), (1, _), (0, _)]) C0 2 1 dX6_heardOfAll_26 rfl rfl (lt_b rfl) rfl ?_
        refine a_goto C0 4 dX6_heardOfAll_29 rfl ?_
        refine AW.sub (ls2 := [(0, _), (1, _), (2, _)]) [2, 1, 0] rfl ?_
        exact ih (i + 1) _ _ (by omega) hlt (by rw [hxi, nI_1]) (by rw [ha]; rfl)
  refine a_iconst C0 0 dX6_heardOfAll_0 rfl ?_
  refine a_istore_n (ls2 := [(1, _), (0, _)]) C0 dX6_heardOfAll_1 rfl (lt_b rfl) rfl ?_
  refine a_iconst C0 0 dX6_heardOfAll_2 rfl ?_
  refine a_istore_n (ls2 := [(2, _), (1, _), (0, _)]) C0 dX6_heardOfAll_3 rfl (lt_b rfl) rfl ?_
  refine AW.sub (ls2 := [(0, _), (1, _), (2, _)]) [2, 1, 0] rfl ?_
  exact lp (nT + 1) 0 _ _ (by omega) (Nat.zero_le _) rfl rfl
set_option maxRecDepth 100000 in
set_option maxHeartbeats 4000000 in
theorem c_X6_housesInUse (l : Launch) (G : GE) {ad : Nat → Nat} {M : WM} {O S : RW} {X : WM} {P : WM} {nT mm : Nat} (rp : RP P S nT mm) (hM : M = mkM O S X)  : CT l G yX6_housesInUse cX6_housesInUse 3 (some .int) 1 [.ref (ad 0)] 14 ad (shM G ad) M (PI (fun r u => r = orP (fun k => 1 <<< (P 6 k &&& 31)) nT ∧ u = mkM O S X)) := by
  refine CT.of (own := RX6) rfl rfl (le_b rfl) fun p e s m args below meth c A C0 hr => ?_
  refine AW.lo (ls2 := [(0, _)]) rfl ?_
  subst hM
  have t8 := rp.t8
  have lp : ∀ (n : Nat) (i : Nat) (a xi : Int32), nT - i < n → (i ≤ nT) → (xi = nI i) → (a = orP (fun k => 1 <<< (P 6 k &&& 31)) i) → AW p l e (rmk 1) s m args below meth c G A 14 ad (shM G ad) 3 0 0 (MQ below (CQ G 14 ad (shM G ad) A (PI (fun r u => r = orP (fun k => 1 <<< (P 6 k &&& 31)) nT ∧ u = mkM O S X))) args s 0 0 A) 4 [(0, .ref (ad 0)), (1, .int a), (2, .int xi)] [] (mkM O S X) := by
    intro n
    induction n with
    | zero =>
      intro i a xi hn
      exact absurd hn (Nat.not_lt_zero _)
    | succ n ih =>
      intro i a xi hn hi hxi ha
      refine a_iload_n C0 2 dX6_housesInUse_4 rfl rfl ?_
      refine a_aload_n C0 0 dX6_housesInUse_5 rfl rfl ?_
      refine g_X6_7 C0 (lt_b rfl) rfl rfl dX6_housesInUse_6 ?_
      refine a_iconst C0 0 dX6_housesInUse_9 rfl ?_
      refine a_iald C0 0 (lt_b rfl) rfl (vq rfl) rfl dX6_housesInUse_10 ?_
      refine a_icmp_ge C0 31 dX6_housesInUse_11 rfl (fun h11 => ?_) (fun h11 => ?_)
      · refine a_iload_n C0 1 dX6_housesInUse_31 rfl rfl ?_
        refine a_iret C0 hr dX6_housesInUse_32 ?_
        have e : i = nT := Nat.le_antisymm hi (i_ge hxi rp.n2 (by omega) (by omega) h11)
        subst e
        exact rt_ ha
      · refine a_iload_n C0 1 dX6_housesInUse_14 rfl rfl ?_
        refine a_iconst C0 1 dX6_housesInUse_15 rfl ?_
        refine a_aload_n C0 0 dX6_housesInUse_16 rfl rfl ?_
        refine a_iload_n C0 2 dX6_housesInUse_17 rfl rfl ?_
        refine a_iconst C0 2 dX6_housesInUse_18 rfl ?_
        have hlt : i < nT := i_lt hxi rp.n2 (by omega) (by omega) h11
        have hx : IX xi i nT := IX.eqn hxi hlt (by omega)
        refine a_callV _ 2 C0 EM.refl (c_X6_its l G (c := 6) rp hx ⟨vq rfl, rfl⟩ rfl rfl) u_c_X6_its u_m_X6_167 u_im_X6_its u_se_X6_its u_in_X6 hy_X6_its rfl (lt_b rfl) rfl (hRk rfl) rfl rfl (le_b rfl) dX6_housesInUse_19 (k_ro EM.refl ?_)
        refine a_ishl C0 dX6_housesInUse_22 ?_
        refine a_ior C0 dX6_housesInUse_23 ?_
        refine a_istore_n (ls2 := [(1, _), (0, _), (2, _)]) C0 dX6_housesInUse_24 rfl (lt_b rfl) rfl ?_
        refine a_iinc (ls2 := [(2, _), (1, _), (0, _)]) C0 2 1 dX6_housesInUse_25 rfl rfl (lt_b rfl) rfl ?_
        refine a_goto C0 4 dX6_housesInUse_28 rfl ?_
        refine AW.sub (ls2 := [(0, _), (1, _), (2, _)]) [2, 1, 0] rfl ?_
        exact ih (i + 1) _ _ (by omega) hlt (by rw [hxi, nI_1]) (by rw [ha]; rfl)
  refine a_iconst C0 0 dX6_housesInUse_0 rfl ?_
  refine a_istore_n (ls2 := [(1, _), (0, _)]) C0 dX6_housesInUse_1 rfl (lt_b rfl) rfl ?_
  refine a_iconst C0 0 dX6_housesInUse_2 rfl ?_
  refine a_istore_n (ls2 := [(2, _), (1, _), (0, _)]) C0 dX6_housesInUse_3 rfl (lt_b rfl) rfl ?_
  refine AW.sub (ls2 := [(0, _), (1, _), (2, _)]) [2, 1, 0] rfl ?_
  exact lp (nT + 1) 0 _ _ (by omega) (Nat.zero_le _) rfl rfl
set_option maxRecDepth 100000 in
set_option maxHeartbeats 4000000 in
theorem c_X6_coldOnes (l : Launch) (G : GE) {ad : Nat → Nat} {M : WM} {O S : RW} {X : WM} {P : WM} {nT mm : Nat} (rp : RP P S nT mm) (hM : M = mkM O S X)  : CT l G yX6_coldOnes cX6_coldOnes 3 (some .int) 1 [.ref (ad 0)] 14 ad (shM G ad) M (PI (fun r u => r = orC (fun k => decide (P 5 k = 0)) bitI nT ∧ u = mkM O S X)) := by
  refine CT.of (own := RX6) rfl rfl (le_b rfl) fun p e s m args below meth c A C0 hr => ?_
  refine AW.lo (ls2 := [(0, _)]) rfl ?_
  subst hM
  have t8 := rp.t8
  have lp : ∀ (n : Nat) (i : Nat) (a xi : Int32), nT - i < n → (i ≤ nT) → (xi = nI i) → (a = orC (fun k => decide (P 5 k = 0)) bitI i) → AW p l e (rmk 1) s m args below meth c G A 14 ad (shM G ad) 3 0 0 (MQ below (CQ G 14 ad (shM G ad) A (PI (fun r u => r = orC (fun k => decide (P 5 k = 0)) bitI nT ∧ u = mkM O S X))) args s 0 0 A) 4 [(0, .ref (ad 0)), (1, .int a), (2, .int xi)] [] (mkM O S X) := by
    intro n
    induction n with
    | zero =>
      intro i a xi hn
      exact absurd hn (Nat.not_lt_zero _)
    | succ n ih =>
      intro i a xi hn hi hxi ha
      refine a_iload_n C0 2 dX6_coldOnes_4 rfl rfl ?_
      refine a_aload_n C0 0 dX6_coldOnes_5 rfl rfl ?_
      refine g_X6_7 C0 (lt_b rfl) rfl rfl dX6_coldOnes_6 ?_
      refine a_iconst C0 0 dX6_coldOnes_9 rfl ?_
      refine a_iald C0 0 (lt_b rfl) rfl (vq rfl) rfl dX6_coldOnes_10 ?_
      refine a_icmp_ge C0 39 dX6_coldOnes_11 rfl (fun h11 => ?_) (fun h11 => ?_)
      · refine a_iload_n C0 1 dX6_coldOnes_39 rfl rfl ?_
        refine a_iret C0 hr dX6_coldOnes_40 ?_
        have e : i = nT := Nat.le_antisymm hi (i_ge hxi rp.n2 (by omega) (by omega) h11)
        subst e
        exact rt_ ha
      · refine a_iload_n C0 1 dX6_coldOnes_14 rfl rfl ?_
        refine a_aload_n C0 0 dX6_coldOnes_15 rfl rfl ?_
        refine a_iload_n C0 2 dX6_coldOnes_16 rfl rfl ?_
        refine a_iconst C0 1 dX6_coldOnes_17 rfl ?_
        have hlt : i < nT := i_lt hxi rp.n2 (by omega) (by omega) h11
        have hx : IX xi i nT := IX.eqn hxi hlt (by omega)
        refine a_callV _ 2 C0 EM.refl (c_X6_its l G (c := 5) rp hx ⟨vq rfl, rfl⟩ rfl rfl) u_c_X6_its u_m_X6_167 u_im_X6_its u_se_X6_its u_in_X6 hy_X6_its rfl (lt_b rfl) rfl (hRk rfl) rfl rfl (le_b rfl) dX6_coldOnes_18 (k_ro EM.refl ?_)
        refine a_if_ne C0 30 dX6_coldOnes_21 rfl (fun h21 => ?_) (fun h21 => ?_)
        · refine a_iconst C0 0 dX6_coldOnes_30 rfl ?_
          refine a_ior C0 dX6_coldOnes_31 ?_
          refine a_istore_n (ls2 := [(1, _), (0, _), (2, _)]) C0 dX6_coldOnes_32 rfl (lt_b rfl) rfl ?_
          refine a_iinc (ls2 := [(2, _), (1, _), (0, _)]) C0 2 1 dX6_coldOnes_33 rfl rfl (lt_b rfl) rfl ?_
          refine a_goto C0 4 dX6_coldOnes_36 rfl ?_
          refine AW.sub (ls2 := [(0, _), (1, _), (2, _)]) [2, 1, 0] rfl ?_
          exact ih (i + 1) _ _ (by omega) hlt (by rw [hxi, nI_1]) (by
            show _ = if decide (P 5 i = 0) = true then _ else _
            first
              | (rw [if_pos (decide_eq_true h21), ha, hxi]; rfl)
              | (rw [if_neg (by simpa using h21), Int32.or_zero]; exact ha))
        · refine a_iconst C0 1 dX6_coldOnes_24 rfl ?_
          refine a_iload_n C0 2 dX6_coldOnes_25 rfl rfl ?_
          refine a_ishl C0 dX6_coldOnes_26 ?_
          refine a_goto C0 31 dX6_coldOnes_27 rfl ?_
          refine a_ior C0 dX6_coldOnes_31 ?_
          refine a_istore_n (ls2 := [(1, _), (0, _), (2, _)]) C0 dX6_coldOnes_32 rfl (lt_b rfl) rfl ?_
          refine a_iinc (ls2 := [(2, _), (1, _), (0, _)]) C0 2 1 dX6_coldOnes_33 rfl rfl (lt_b rfl) rfl ?_
          refine a_goto C0 4 dX6_coldOnes_36 rfl ?_
          refine AW.sub (ls2 := [(0, _), (1, _), (2, _)]) [2, 1, 0] rfl ?_
          exact ih (i + 1) _ _ (by omega) hlt (by rw [hxi, nI_1]) (by
            show _ = if decide (P 5 i = 0) = true then _ else _
            first
              | (rw [if_pos (decide_eq_true h21), ha, hxi]; rfl)
              | (rw [if_neg (by simpa using h21), Int32.or_zero]; exact ha))
  refine a_iconst C0 0 dX6_coldOnes_0 rfl ?_
  refine a_istore_n (ls2 := [(1, _), (0, _)]) C0 dX6_coldOnes_1 rfl (lt_b rfl) rfl ?_
  refine a_iconst C0 0 dX6_coldOnes_2 rfl ?_
  refine a_istore_n (ls2 := [(2, _), (1, _), (0, _)]) C0 dX6_coldOnes_3 rfl (lt_b rfl) rfl ?_
  refine AW.sub (ls2 := [(0, _), (1, _), (2, _)]) [2, 1, 0] rfl ?_
  exact lp (nT + 1) 0 _ _ (by omega) (Nat.zero_le _) rfl rfl
set_option maxRecDepth 100000 in
set_option maxHeartbeats 4000000 in
theorem c_X6_talesAt (l : Launch) (G : GE) {ad : Nat → Nat} {M : WM} {O S : RW} {X : WM} {P : WM} {nT mm : Nat} (rp : RP P S nT mm) {w : Int32} (hM : M = mkM O S X)  : CT l G yX6_talesAt cX6_talesAt 4 (some .int) 1 [.ref (ad 0), .int w] 14 ad (shM G ad) M (PI (fun r u => r = orC (fun k => decide (P 6 k = w)) bitI nT ∧ u = mkM O S X)) := by
  refine CT.of (own := RX6) rfl rfl (le_b rfl) fun p e s m args below meth c A C0 hr => ?_
  refine AW.lo (ls2 := [(0, _), (1, _)]) rfl ?_
  subst hM
  have t8 := rp.t8
  have lp : ∀ (n : Nat) (i : Nat) (a xi : Int32), nT - i < n → (i ≤ nT) → (xi = nI i) → (a = orC (fun k => decide (P 6 k = w)) bitI i) → AW p l e (rmk 1) s m args below meth c G A 14 ad (shM G ad) 4 0 0 (MQ below (CQ G 14 ad (shM G ad) A (PI (fun r u => r = orC (fun k => decide (P 6 k = w)) bitI nT ∧ u = mkM O S X))) args s 0 0 A) 4 [(0, .ref (ad 0)), (1, .int w), (2, .int a), (3, .int xi)] [] (mkM O S X) := by
    intro n
    induction n with
    | zero =>
      intro i a xi hn
      exact absurd hn (Nat.not_lt_zero _)
    | succ n ih =>
      intro i a xi hn hi hxi ha
      refine a_iload_n C0 3 dX6_talesAt_4 rfl rfl ?_
      refine a_aload_n C0 0 dX6_talesAt_5 rfl rfl ?_
      refine g_X6_7 C0 (lt_b rfl) rfl rfl dX6_talesAt_6 ?_
      refine a_iconst C0 0 dX6_talesAt_9 rfl ?_
      refine a_iald C0 0 (lt_b rfl) rfl (vq rfl) rfl dX6_talesAt_10 ?_
      refine a_icmp_ge C0 40 dX6_talesAt_11 rfl (fun h11 => ?_) (fun h11 => ?_)
      · refine a_iload_n C0 2 dX6_talesAt_40 rfl rfl ?_
        refine a_iret C0 hr dX6_talesAt_41 ?_
        have e : i = nT := Nat.le_antisymm hi (i_ge hxi rp.n2 (by omega) (by omega) h11)
        subst e
        exact rt_ ha
      · refine a_iload_n C0 2 dX6_talesAt_14 rfl rfl ?_
        refine a_aload_n C0 0 dX6_talesAt_15 rfl rfl ?_
        refine a_iload_n C0 3 dX6_talesAt_16 rfl rfl ?_
        refine a_iconst C0 2 dX6_talesAt_17 rfl ?_
        have hlt : i < nT := i_lt hxi rp.n2 (by omega) (by omega) h11
        have hx : IX xi i nT := IX.eqn hxi hlt (by omega)
        refine a_callV _ 2 C0 EM.refl (c_X6_its l G (c := 6) rp hx ⟨vq rfl, rfl⟩ rfl rfl) u_c_X6_its u_m_X6_167 u_im_X6_its u_se_X6_its u_in_X6 hy_X6_its rfl (lt_b rfl) rfl (hRk rfl) rfl rfl (le_b rfl) dX6_talesAt_18 (k_ro EM.refl ?_)
        refine a_iload_n C0 1 dX6_talesAt_21 rfl rfl ?_
        refine a_icmp_ne C0 31 dX6_talesAt_22 rfl (fun h22 => ?_) (fun h22 => ?_)
        · refine a_iconst C0 0 dX6_talesAt_31 rfl ?_
          refine a_ior C0 dX6_talesAt_32 ?_
          refine a_istore_n (ls2 := [(2, _), (0, _), (1, _), (3, _)]) C0 dX6_talesAt_33 rfl (lt_b rfl) rfl ?_
          refine a_iinc (ls2 := [(3, _), (2, _), (0, _), (1, _)]) C0 3 1 dX6_talesAt_34 rfl rfl (lt_b rfl) rfl ?_
          refine a_goto C0 4 dX6_talesAt_37 rfl ?_
          refine AW.sub (ls2 := [(0, _), (1, _), (2, _), (3, _)]) [2, 3, 1, 0] rfl ?_
          exact ih (i + 1) _ _ (by omega) hlt (by rw [hxi, nI_1]) (by
            show _ = if decide (P 6 i = w) = true then _ else _
            first
              | (rw [if_pos (decide_eq_true h22), ha, hxi]; rfl)
              | (rw [if_neg (by simpa using h22), Int32.or_zero]; exact ha))
        · refine a_iconst C0 1 dX6_talesAt_25 rfl ?_
          refine a_iload_n C0 3 dX6_talesAt_26 rfl rfl ?_
          refine a_ishl C0 dX6_talesAt_27 ?_
          refine a_goto C0 32 dX6_talesAt_28 rfl ?_
          refine a_ior C0 dX6_talesAt_32 ?_
          refine a_istore_n (ls2 := [(2, _), (0, _), (1, _), (3, _)]) C0 dX6_talesAt_33 rfl (lt_b rfl) rfl ?_
          refine a_iinc (ls2 := [(3, _), (2, _), (0, _), (1, _)]) C0 3 1 dX6_talesAt_34 rfl rfl (lt_b rfl) rfl ?_
          refine a_goto C0 4 dX6_talesAt_37 rfl ?_
          refine AW.sub (ls2 := [(0, _), (1, _), (2, _), (3, _)]) [2, 3, 1, 0] rfl ?_
          exact ih (i + 1) _ _ (by omega) hlt (by rw [hxi, nI_1]) (by
            show _ = if decide (P 6 i = w) = true then _ else _
            first
              | (rw [if_pos (decide_eq_true h22), ha, hxi]; rfl)
              | (rw [if_neg (by simpa using h22), Int32.or_zero]; exact ha))
  refine a_iconst C0 0 dX6_talesAt_0 rfl ?_
  refine a_istore_n (ls2 := [(2, _), (0, _), (1, _)]) C0 dX6_talesAt_1 rfl (lt_b rfl) rfl ?_
  refine a_iconst C0 0 dX6_talesAt_2 rfl ?_
  refine a_istore_n (ls2 := [(3, _), (2, _), (0, _), (1, _)]) C0 dX6_talesAt_3 rfl (lt_b rfl) rfl ?_
  refine AW.sub (ls2 := [(0, _), (1, _), (2, _), (3, _)]) [2, 3, 1, 0] rfl ?_
  exact lp (nT + 1) 0 _ _ (by omega) (Nat.zero_le _) rfl rfl

theorem bit_t : ∀ a, a < 256 → ∀ h, h < 8 → (decide ((nI a >>> (nI h &&& 31)) &&& 1 = 0) || decide ((nI a >>> (nI h &&& 31)) &&& 1 = 1)) = true := by decide +kernel
theorem bit_01 {x h : Int32} (hx : vp_in x 256) (hh : vp_in h 8) : (x >>> (h &&& 31)) &&& 1 = 0 ∨ (x >>> (h &&& 31)) &&& 1 = 1 := by
  obtain ⟨a, ha, rfl⟩ := vp_in_of hx (by decide)
  obtain ⟨b, hb, rfl⟩ := vp_in_of hh (by decide)
  have := bit_t a ha b hb
  rw [Bool.or_eq_true, decide_eq_true_iff, decide_eq_true_iff] at this
  exact this
theorem shl0 (k : Int32) : (0 : Int32) <<< (k &&& 31) = 0 := Int32.zero_shiftLeft

set_option maxRecDepth 100000 in
set_option maxHeartbeats 4000000 in
theorem c_X6_talesHeardBy (l : Launch) (G : GE) {ad : Nat → Nat} {M : WM} {O S : RW} {X : WM} {P : WM} {nT mm : Nat} (rp : RP P S nT mm) {w : Int32} (hw : vp_in w 8) (hM : M = mkM O S X)  : CT l G yX6_talesHeardBy cX6_talesHeardBy 4 (some .int) 1 [.ref (ad 0), .int w] 14 ad (shM G ad) M (PI (fun r u => r = orC (fun k => decide ((P 7 k >>> (w &&& 31)) &&& 1 = 1)) bitI nT ∧ u = mkM O S X)) := by
  refine CT.of (own := RX6) rfl rfl (le_b rfl) fun p e s m args below meth c A C0 hr => ?_
  refine AW.lo (ls2 := [(0, _), (1, _)]) rfl ?_
  subst hM
  have t8 := rp.t8
  have lp : ∀ (n : Nat) (i : Nat) (a xi : Int32), nT - i < n → (i ≤ nT) → (xi = nI i) → (a = orC (fun k => decide ((P 7 k >>> (w &&& 31)) &&& 1 = 1)) bitI i) → AW p l e (rmk 1) s m args below meth c G A 14 ad (shM G ad) 4 0 0 (MQ below (CQ G 14 ad (shM G ad) A (PI (fun r u => r = orC (fun k => decide ((P 7 k >>> (w &&& 31)) &&& 1 = 1)) bitI nT ∧ u = mkM O S X))) args s 0 0 A) 4 [(0, .ref (ad 0)), (1, .int w), (2, .int a), (3, .int xi)] [] (mkM O S X) := by
    intro n
    induction n with
    | zero =>
      intro i a xi hn
      exact absurd hn (Nat.not_lt_zero _)
    | succ n ih =>
      intro i a xi hn hi hxi ha
      refine a_iload_n C0 3 dX6_talesHeardBy_4 rfl rfl ?_
      refine a_aload_n C0 0 dX6_talesHeardBy_5 rfl rfl ?_
      refine g_X6_7 C0 (lt_b rfl) rfl rfl dX6_talesHeardBy_6 ?_
      refine a_iconst C0 0 dX6_talesHeardBy_9 rfl ?_
      refine a_iald C0 0 (lt_b rfl) rfl (vq rfl) rfl dX6_talesHeardBy_10 ?_
      refine a_icmp_ge C0 35 dX6_talesHeardBy_11 rfl (fun h11 => ?_) (fun h11 => ?_)
      · refine a_iload_n C0 2 dX6_talesHeardBy_35 rfl rfl ?_
        refine a_iret C0 hr dX6_talesHeardBy_36 ?_
        have e : i = nT := Nat.le_antisymm hi (i_ge hxi rp.n2 (by omega) (by omega) h11)
        subst e
        exact rt_ ha
      · refine a_iload_n C0 2 dX6_talesHeardBy_14 rfl rfl ?_
        refine a_aload_n C0 0 dX6_talesHeardBy_15 rfl rfl ?_
        refine a_iload_n C0 3 dX6_talesHeardBy_16 rfl rfl ?_
        refine a_iconst C0 3 dX6_talesHeardBy_17 rfl ?_
        have hlt : i < nT := i_lt hxi rp.n2 (by omega) (by omega) h11
        have hx : IX xi i nT := IX.eqn hxi hlt (by omega)
        refine a_callV _ 2 C0 EM.refl (c_X6_its l G (c := 7) rp hx ⟨vq rfl, rfl⟩ rfl rfl) u_c_X6_its u_m_X6_167 u_im_X6_its u_se_X6_its u_in_X6 hy_X6_its rfl (lt_b rfl) rfl (hRk rfl) rfl rfl (le_b rfl) dX6_talesHeardBy_18 (k_ro EM.refl ?_)
        refine a_iload_n C0 1 dX6_talesHeardBy_21 rfl rfl ?_
        refine a_ishr C0 dX6_talesHeardBy_22 ?_
        refine a_iconst C0 1 dX6_talesHeardBy_23 rfl ?_
        refine a_iand C0 dX6_talesHeardBy_24 ?_
        refine a_iload_n C0 3 dX6_talesHeardBy_25 rfl rfl ?_
        refine a_ishl C0 dX6_talesHeardBy_26 ?_
        refine a_ior C0 dX6_talesHeardBy_27 ?_
        refine a_istore_n (ls2 := [(2, _), (0, _), (1, _), (3, _)]) C0 dX6_talesHeardBy_28 rfl (lt_b rfl) rfl ?_
        refine a_iinc (ls2 := [(3, _), (2, _), (0, _), (1, _)]) C0 3 1 dX6_talesHeardBy_29 rfl rfl (lt_b rfl) rfl ?_
        refine a_goto C0 4 dX6_talesHeardBy_32 rfl ?_
        refine AW.sub (ls2 := [(0, _), (1, _), (2, _), (3, _)]) [2, 3, 1, 0] rfl ?_
        exact ih (i + 1) _ _ (by omega) hlt (by rw [hxi, nI_1]) (by
          show _ = if decide ((P 7 i >>> (w &&& 31)) &&& 1 = 1) = true then _ else _
          rcases bit_01 (rp.hdw i hlt) hw with q | q
          · rw [if_neg (by rw [q]; decide), q, shl0, Int32.or_zero]
            exact ha
          · rw [if_pos (by rw [q]; decide), q, ha, hxi]
            rfl)
  refine a_iconst C0 0 dX6_talesHeardBy_0 rfl ?_
  refine a_istore_n (ls2 := [(2, _), (0, _), (1, _)]) C0 dX6_talesHeardBy_1 rfl (lt_b rfl) rfl ?_
  refine a_iconst C0 0 dX6_talesHeardBy_2 rfl ?_
  refine a_istore_n (ls2 := [(3, _), (2, _), (0, _), (1, _)]) C0 dX6_talesHeardBy_3 rfl (lt_b rfl) rfl ?_
  refine AW.sub (ls2 := [(0, _), (1, _), (2, _), (3, _)]) [2, 3, 1, 0] rfl ?_
  exact lp (nT + 1) 0 _ _ (by omega) (Nat.zero_le _) rfl rfl

def bxL (v : Int32) : Nat → Int32
  | 0 => 0
  | k + 1 => bxL v k ||| (((v >>> (nI k &&& 31)) &&& 1) <<< (nI k &&& 31))
theorem bxL_t : ∀ a, a < 256 → bxL (nI a) 8 = nI a := by decide +kernel
theorem bxL_8 {v : Int32} (h : vp_in v 256) : bxL v 8 = v := by
  obtain ⟨a, ha, rfl⟩ := vp_in_of h (by decide)
  exact bxL_t a ha

set_option maxRecDepth 100000 in
set_option maxHeartbeats 4000000 in
theorem c_X6_boxes (l : Launch) (G : GE) {ad : Nat → Nat} {M : WM} {O S : RW} {X : WM} {P : WM} {nT mm : Nat} (rp : RP P S nT mm) (hM : M = mkM O S X)  : CT l G yX6_boxes cX6_boxes 3 (some .int) 0 [.ref (ad 0)] 14 ad (shM G ad) M (PI (fun r u => r = P 0 7 ∧ u = mkM O S X)) := by
  refine CT.of (own := RX6) rfl rfl (le_b rfl) fun p e s m args below meth c A C0 hr => ?_
  refine AW.lo (ls2 := [(0, _)]) rfl ?_
  subst hM
  have lp : ∀ (n : Nat) (i : Nat) (a xi : Int32), 8 - i < n → (i ≤ 8) → (xi = nI i) → (a = bxL (P 0 7) i) → AW p l e (rmk 0) s m args below meth c G A 14 ad (shM G ad) 3 0 0 (MQ below (CQ G 14 ad (shM G ad) A (PI (fun r u => r = P 0 7 ∧ u = mkM O S X))) args s 0 0 A) 4 [(0, .ref (ad 0)), (1, .int a), (2, .int xi)] [] (mkM O S X) := by
    intro n
    induction n with
    | zero =>
      intro i a xi hn
      exact absurd hn (Nat.not_lt_zero _)
    | succ n ih =>
      intro i a xi hn hi hxi ha
      refine a_iload_n C0 2 dX6_boxes_4 rfl rfl ?_
      refine a_bipush C0 8 dX6_boxes_5 rfl ?_
      refine a_icmp_ge C0 30 dX6_boxes_7 rfl (fun h7 => ?_) (fun h7 => ?_)
      · refine a_iload_n C0 1 dX6_boxes_30 rfl rfl ?_
        refine a_iret C0 hr dX6_boxes_31 ?_
        have e : i = 8 := Nat.le_antisymm hi (i_ge (T := 8) hxi rfl (by omega) (by omega) h7)
        subst e
        exact rt_ (by rw [ha, bxL_8 rp.bxw])
      · have hlt : i < 8 := i_lt (T := 8) hxi rfl (by omega) (by omega) h7
        have hx := IX.pl 23 (bb := 23) (IX.eqn hxi hlt (by decide)) rfl (by decide)
        have hx := hx.le (n2 := 63) (by decide)
        refine a_iload_n C0 1 dX6_boxes_10 rfl rfl ?_
        refine a_aload_n C0 0 dX6_boxes_11 rfl rfl ?_
        refine g_X6_7 C0 (lt_b rfl) rfl rfl dX6_boxes_12 ?_
        refine a_bipush C0 23 dX6_boxes_15 rfl ?_
        refine a_iload_n C0 2 dX6_boxes_17 rfl rfl ?_
        refine a_iadd C0 dX6_boxes_18 ?_
        refine a_iald C0 _ (lt_b rfl) rfl hx.1 hx.2 dX6_boxes_19 ?_
        refine a_iload_n C0 2 dX6_boxes_20 rfl rfl ?_
        refine a_ishl C0 dX6_boxes_21 ?_
        refine a_ior C0 dX6_boxes_22 ?_
        refine a_istore_n (ls2 := [(1, _), (0, _), (2, _)]) C0 dX6_boxes_23 rfl (lt_b rfl) rfl ?_
        refine a_iinc (ls2 := [(2, _), (1, _), (0, _)]) C0 2 1 dX6_boxes_24 rfl rfl (lt_b rfl) rfl ?_
        refine a_goto C0 4 dX6_boxes_27 rfl ?_
        refine AW.sub (ls2 := [(0, _), (1, _), (2, _)]) [2, 1, 0] rfl ?_
        exact ih (i + 1) _ _ (by omega) hlt (by rw [hxi, nI_1]) (by rw [show mkM O S X 1 (23 + i) = (P 0 7 >>> (nI i &&& 31)) &&& 1 from rp.bx i hlt, ha, hxi]; rfl)
  refine a_iconst C0 0 dX6_boxes_0 rfl ?_
  refine a_istore_n (ls2 := [(1, _), (0, _)]) C0 dX6_boxes_1 rfl (lt_b rfl) rfl ?_
  refine a_iconst C0 0 dX6_boxes_2 rfl ?_
  refine a_istore_n (ls2 := [(2, _), (1, _), (0, _)]) C0 dX6_boxes_3 rfl (lt_b rfl) rfl ?_
  refine AW.sub (ls2 := [(0, _), (1, _), (2, _)]) [2, 1, 0] rfl ?_
  exact lp 9 0 _ _ (by omega) (Nat.zero_le _) rfl rfl

def unN (a : Nat) : Nat := (if a.testBit 0 then 0 else 1) + (if a.testBit 1 then 0 else 1) + (if a.testBit 2 then 0 else 1) + (if a.testBit 3 then 0 else 1) + (if a.testBit 4 then 0 else 1) + (if a.testBit 5 then 0 else 1) + (if a.testBit 6 then 0 else 1) + (if a.testBit 7 then 0 else 1)
theorem lp_or : ∀ a, a < 256 → ∀ h, h < 8 → nI a ||| 1 <<< (nI h &&& 31) = nI (a ||| 2 ^ h) := by decide +kernel
theorem lp_bt : ∀ a, a < 256 → ∀ h, h < 8 → (decide ((nI a >>> (nI h &&& 31)) &&& 1 = 0) == !a.testBit h) = true := by decide +kernel
theorem lp_un : ∀ a, a < 256 → ∀ h, h < 8 → (a.testBit h || (decide (unN (a ||| 2 ^ h) + 1 = unN a) && decide (a ||| 2 ^ h < 256))) = true := by decide +kernel
theorem lp_nb {a h : Nat} (ha : a < 256) (hh : h < 8) : (nI a >>> (nI h &&& 31)) &&& 1 = 0 ↔ a.testBit h = false := by
  have q := eq_of_beq (lp_bt a ha h hh)
  constructor
  · intro c
    rw [decide_eq_true c] at q
    cases e : a.testBit h
    · rfl
    · rw [e] at q
      cases q
  · intro c
    rw [c] at q
    exact of_decide_eq_true q
theorem lp_tb (a h k : Nat) : (a ||| 2 ^ h).testBit k = (a.testBit k || decide (h = k)) := by
  rw [Nat.testBit_or, Nat.testBit_two_pow]
theorem lp_same {a h : Nat} (hb : a.testBit h = true) : a ||| 2 ^ h = a := by
  refine Nat.eq_of_testBit_eq fun k => ?_
  rw [lp_tb]
  by_cases e : h = k
  · rw [← e, hb, Bool.true_or]
  · rw [decide_eq_false e, Bool.or_false]
theorem lp_stop {P : WM} {a : Nat} (ha : a < 256) (hf : ∀ k, k < 8 → vp_in (P 2 k) 8) (hc : ∀ x, x < 8 → a.testBit x = true → a.testBit (ix (P 2 x)) = true) : ∀ (f : Nat) (b : Nat), b < 8 → a.testBit b = true → lpP P f (nI a) (nI b) = nI a
  | 0, _, _, _ => rfl
  | f + 1, b, hh, hb => by
    show lpP P f (nI a ||| 1 <<< (nI b &&& 31)) (P 2 (ix (nI b))) = nI a
    rw [show ix (nI b) = b from nI_clamp (by omega), lp_or a ha b hh, lp_same hb]
    have e := (IX.v (hf b hh)).eq (by decide)
    rw [e]
    exact lp_stop ha hf hc f _ (vp_lt (hf b hh)) (hc b hh hb)

set_option maxRecDepth 100000 in
set_option maxHeartbeats 4000000 in
theorem c_X6_loopOf (l : Launch) (G : GE) {ad : Nat → Nat} {M : WM} {O S : RW} {X : WM} {P : WM} {nT mm : Nat} (rp : RP P S nT mm) {h : Int32} (hh : vp_in h 8) (hM : M = mkM O S X)  : CT l G yX6_loopOf cX6_loopOf 4 (some .int) 0 [.ref (ad 0), .int h] 14 ad (shM G ad) M (PI (fun r u => r = lpP P 8 0 h ∧ u = mkM O S X)) := by
  refine CT.of (own := RX6) rfl rfl (le_b rfl) fun p e s m args below meth c A C0 hr => ?_
  refine AW.lo (ls2 := [(0, _), (1, _)]) rfl ?_
  subst hM
  have lp : ∀ (n : Nat) (f : Nat) (g b : Nat), f < n → (g < 256) → (b < 8) → (unN g = f) → (∀ x, x < 8 → g.testBit x = true → g.testBit (ix (P 2 x)) = true ∨ P 2 x = nI b) → (lpP P f (nI g) (nI b) = lpP P 8 0 h) → AW p l e (rmk 0) s m args below meth c G A 14 ad (shM G ad) 4 0 0 (MQ below (CQ G 14 ad (shM G ad) A (PI (fun r u => r = lpP P 8 0 h ∧ u = mkM O S X))) args s 0 0 A) 4 [(0, .ref (ad 0)), (1, .int h), (2, .int (nI g)), (3, .int (nI b))] [] (mkM O S X) := by
    intro n
    induction n with
    | zero =>
      intro f g b hn
      exact absurd hn (Nat.not_lt_zero _)
    | succ n ih =>
      intro f g b hn hg hb hu hcl hm
      refine a_iload_n C0 2 dX6_loopOf_4 rfl rfl ?_
      refine a_iload_n C0 3 dX6_loopOf_5 rfl rfl ?_
      refine a_ishr C0 dX6_loopOf_6 ?_
      refine a_iconst C0 1 dX6_loopOf_7 rfl ?_
      refine a_iand C0 dX6_loopOf_8 ?_
      refine a_if_ne C0 31 dX6_loopOf_9 rfl (fun h9 => ?_) (fun h9 => ?_)
      · refine a_iload_n C0 2 dX6_loopOf_31 rfl rfl ?_
        refine a_iret C0 hr dX6_loopOf_32 ?_
        have hyb : g.testBit b = true := by
          cases c : g.testBit b
          · exact absurd ((lp_nb hg hb).mpr c) h9
          · rfl
        refine rt_ ?_
        rw [← hm]
        refine (lp_stop hg rp.frw (fun x hx8 hxb => ?_) f _ hb hyb).symm
        rcases hcl x hx8 hxb with h2 | h2
        · exact h2
        · rw [h2, show ix (nI b) = b from nI_clamp (by omega)]
          exact hyb
      · have hnb := (lp_nb hg hb).mp h9
        have hq := lp_un g hg b hb
        rw [hnb, Bool.false_or, Bool.and_eq_true, decide_eq_true_iff, decide_eq_true_iff] at hq
        obtain ⟨f, rfl⟩ : ∃ f2, f = f2 + 1 := ⟨unN (g ||| 2 ^ b), by omega⟩
        have hx := (IX.pl 7 (bb := 7) (IX.n hb (by decide)) rfl (by decide)).le (n2 := 63) (by decide)
        refine a_iload_n C0 2 dX6_loopOf_12 rfl rfl ?_
        refine a_iconst C0 1 dX6_loopOf_13 rfl ?_
        refine a_iload_n C0 3 dX6_loopOf_14 rfl rfl ?_
        refine a_ishl C0 dX6_loopOf_15 ?_
        refine a_ior C0 dX6_loopOf_16 ?_
        refine a_istore_n (ls2 := [(2, _), (0, _), (1, _), (3, _)]) C0 dX6_loopOf_17 rfl (lt_b rfl) rfl ?_
        refine a_aload_n C0 1 dX6_loopOf_18 rfl rfl ?_
        refine g_X6_7 C0 (lt_b rfl) rfl rfl dX6_loopOf_19 ?_
        refine a_bipush C0 7 dX6_loopOf_22 rfl ?_
        refine a_iload_n C0 3 dX6_loopOf_24 rfl rfl ?_
        refine a_iadd C0 dX6_loopOf_25 ?_
        refine a_iald C0 _ (lt_b rfl) rfl hx.1 hx.2 dX6_loopOf_26 ?_
        refine a_istore_n (ls2 := [(3, _), (2, _), (0, _), (1, _)]) C0 dX6_loopOf_27 rfl (lt_b rfl) rfl ?_
        refine a_goto C0 4 dX6_loopOf_28 rfl ?_
        refine AW.sub (ls2 := [(0, _), (1, _), (2, _), (3, _)]) [2, 3, 1, 0] rfl ?_
        rw [show mkM O S X 1 (7 + b) = P 2 b from rp.fr b hb, lp_or g hg b hb]
        have ef := (IX.v (rp.frw b hb)).eq (by decide)
        rw [ef]
        exact ih f _ _ (by omega) hq.2 (vp_lt (rp.frw b hb)) (by omega) (fun x hx8 hxb => by
          rw [lp_tb, Bool.or_eq_true, decide_eq_true_iff] at hxb
          rcases hxb with hxb | rfl
          · rcases hcl x hx8 hxb with h2 | h2
            · exact Or.inl (by rw [lp_tb, h2, Bool.true_or])
            · refine Or.inl ?_
              rw [h2, show ix (nI b) = b from nI_clamp (by omega), lp_tb, decide_eq_true rfl, Bool.or_true]
          · exact Or.inr ef) (by
          rw [← hm]
          show _ = lpP P f (nI g ||| 1 <<< (nI b &&& 31)) (P 2 (ix (nI b)))
          rw [show ix (nI b) = b from nI_clamp (by omega), lp_or g hg b hb, ← ef])
  refine a_iconst C0 0 dX6_loopOf_0 rfl ?_
  refine a_istore_n (ls2 := [(2, _), (0, _), (1, _)]) C0 dX6_loopOf_1 rfl (lt_b rfl) rfl ?_
  refine a_iload_n C0 2 dX6_loopOf_2 rfl rfl ?_
  refine a_istore_n (ls2 := [(3, _), (2, _), (0, _), (1, _)]) C0 dX6_loopOf_3 rfl (lt_b rfl) rfl ?_
  refine AW.sub (ls2 := [(0, _), (1, _), (2, _), (3, _)]) [2, 3, 1, 0] rfl ?_
  have eh := (IX.v hh).eq (by decide)
  have hst := lp 9 8 0 (ix h) (by omega) (by decide) (vp_lt hh) (by decide) (fun x hx8 hxb => by
    rw [Nat.zero_testBit] at hxb
    cases hxb) (by rw [← eh]; rfl)
  rw [← eh] at hst
  exact hst
