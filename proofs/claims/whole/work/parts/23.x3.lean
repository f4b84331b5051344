set_option maxRecDepth 100000 in
set_option maxHeartbeats 4000000 in
theorem c_X5_friendFor (l : Launch) (G : GE) {ad : Nat → Nat} {M : WM} {O : Nat → Int32} {N K T B R S H Z : WM} {h v y : Int32} {nT : Nat} (w : WFP N nT) (hM : M = mkX O N K T B R S H Z)  : CT l G yX5_friendFor cX5_friendFor 8 (some .int) 6 [.ref (ad 0), .int h, .int v, .int y] 54 ad (shX G ad) M (PI (fun r u => r = (if (isHo h ∧ isTl N v ∧ (1 ≤ y ∧ y ≤ 30)) then (bsS (fun i => bcS (minsP (ix y) (up2 N 2 (ix h) (nI i)) (ix v) 7 (ix v))) 8).1 else -1) ∧ ∃ T2, u = mkX O N K T2 B R S H Z)) := by
  refine CT.of (own := RX5) rfl rfl (le_b rfl) fun p e s m args below meth c A C0 hr => ?_
  refine AW.lo (ls2 := [(0, _), (1, _), (2, _), (3, _)]) rfl ?_
  subst hM
  have lp : ∀ (n : Nat) (i : Nat) (a b xi : Int32) (T1 : WM), 8 - i < n → (i ≤ 8) → (xi = nI i) → ((isHo h ∧ isTl N v ∧ (1 ≤ y ∧ y ≤ 30))) → ((a, b) = bsS (fun i => bcS (minsP (ix y) (up2 N 2 (ix h) (nI i)) (ix v) 7 (ix v))) i) → AW p l e (rmk 6) s m args below meth c G A 54 ad (shX G ad) 8 0 0 (MQ below (CQ G 54 ad (shX G ad) A (PI (fun r u => r = (if (isHo h ∧ isTl N v ∧ (1 ≤ y ∧ y ≤ 30)) then (bsS (fun i => bcS (minsP (ix y) (up2 N 2 (ix h) (nI i)) (ix v) 7 (ix v))) 8).1 else -1) ∧ ∃ T2, u = mkX O N K T2 B R S H Z))) args s 0 0 A) 36 [(0, .ref (ad 0)), (1, .int h), (2, .int v), (3, .int y), (4, .int a), (5, .int b), (6, .int xi)] [] (mkX O N K T1 B R S H Z) := by
    intro n
    induction n with
    | zero =>
      intro i a b xi T1 hn
      exact absurd hn (Nat.not_lt_zero _)
    | succ n ih =>
      intro i a b xi T1 hn hi hxi hc hm
      have hv := (isTl_in w).mp hc.2.1
      have hx : IX v (ix v) 8 := IX.v (vp_le hv w.2.1)
      have ht : ix v < nT := vp_lt hv
      have hh : IX h (ix h) 8 := IX.v (ho_in hc.1)
      refine a_iload C0 6 dX5_friendFor_36 rfl ?_
      refine a_bipush C0 8 dX5_friendFor_38 rfl ?_
      refine a_icmp_ge C0 87 dX5_friendFor_40 rfl (fun h40 => ?_) (fun h40 => ?_)
      · refine a_iload C0 4 dX5_friendFor_87 rfl ?_
        refine a_iret C0 hr dX5_friendFor_89 ?_
        have e : i = 8 := Nat.le_antisymm hi (i_ge (T := 8) hxi rfl (by omega) (by omega) h40)
        subst e
        refine tr_ ?_
        rw [if_pos hc, ← hm]
      · have hlt : i < 8 := i_lt (T := 8) hxi rfl (by omega) (by omega) h40
        have hv8 : vp_in xi 8 := by rw [hxi]; exact vp_in_nI hlt (by decide)
        have hg : bcS (minsP (ix y) (up2 N 2 (ix h) xi) (ix v) 7 (ix v)) = (fun i => bcS (minsP (ix y) (up2 N 2 (ix h) (nI i)) (ix v) 7 (ix v))) i := by rw [hxi]
        refine a_aload_n C0 0 dX5_friendFor_43 rfl rfl ?_
        refine a_callV _ 0 C0 EM.refl (c_X5_startTrial l G rfl) u_c_X5_startTrial u_m_X5_181 u_im_X5_startTrial u_se_X5_startTrial u_in_X5 hy_X5_startTrial rfl (lt_b rfl) rfl (hRk rfl) rfl rfl (le_b rfl) dX5_friendFor_44 (k_vo ?_)
        refine a_aload_n C0 0 dX5_friendFor_47 rfl rfl ?_
        refine g_X5_19 C0 (lt_b rfl) rfl rfl dX5_friendFor_48 ?_
        refine g_X5_138 C0 (lt_b rfl) rfl rfl dX5_friendFor_51 ?_
        refine a_iload_n C0 1 dX5_friendFor_54 rfl rfl ?_
        refine a_iload C0 6 dX5_friendFor_55 rfl ?_
        refine a_iast C0 _ (lt_b rfl) (fun _ => rfl) hh.1 hh.2 dX5_friendFor_57 ?_
        refine AW.cg (M := (mkX O N K (up2 N 2 (ix h) xi) B R S H Z)) (fun c hc => mkX_Tu (q := 2) (by decide) c hc) ?_
        refine a_aload_n C0 0 dX5_friendFor_58 rfl rfl ?_
        refine a_iload_n C0 2 dX5_friendFor_59 rfl rfl ?_
        refine a_iload_n C0 3 dX5_friendFor_60 rfl rfl ?_
        refine a_callV _ 2 C0 EM.refl (c_X5_triedReach l G hx (w.fr hv8) ht rfl) u_c_X5_triedReach u_m_X5_194 u_im_X5_triedReach u_se_X5_triedReach u_in_X5 hy_X5_triedReach rfl (lt_b rfl) rfl (hRk rfl) rfl rfl (le_b rfl) dX5_friendFor_61 (k_i fun r61 u61 q61 => ?_)
        obtain ⟨rfl, T2, rfl⟩ := q61
        refine a_istore (ls2 := [(7, _), (0, _), (1, _), (2, _), (3, _), (4, _), (5, _), (6, _)]) C0 dX5_friendFor_64 (lt_b rfl) rfl ?_
        refine a_iload C0 0 dX5_friendFor_66 rfl ?_
        refine a_iload C0 6 dX5_friendFor_68 rfl ?_
        refine a_icmp_le C0 81 dX5_friendFor_70 rfl (fun h70 => ?_) (fun h70 => ?_)
        · refine a_iinc (ls2 := [(6, _), (7, _), (0, _), (1, _), (2, _), (3, _), (4, _), (5, _)]) C0 7 1 dX5_friendFor_81 rfl rfl (lt_b rfl) rfl ?_
          refine a_goto C0 36 dX5_friendFor_84 rfl ?_
          refine AW.sub (ls2 := [(0, _), (1, _), (2, _), (3, _), (4, _), (5, _), (6, _)]) [2, 3, 4, 5, 6, 7, 0] rfl ?_
          exact ih (i + 1) _ _ _ _ (by omega) hlt (by rw [hxi, nI_1]) hc (by
            show _ = if (bsS (fun i => bcS (minsP (ix y) (up2 N 2 (ix h) (nI i)) (ix v) 7 (ix v))) i).2 < (fun i => bcS (minsP (ix y) (up2 N 2 (ix h) (nI i)) (ix v) 7 (ix v))) i then _ else _
            first
              | (have hq : ¬ (bsS (fun i => bcS (minsP (ix y) (up2 N 2 (ix h) (nI i)) (ix v) 7 (ix v))) i).2 < (fun i => bcS (minsP (ix y) (up2 N 2 (ix h) (nI i)) (ix v) 7 (ix v))) i := by
                   rw [← hm, ← hg]
                   exact Int32.not_lt.mpr h70
                 rw [if_neg hq]
                 exact hm)
              | (have hq : (bsS (fun i => bcS (minsP (ix y) (up2 N 2 (ix h) (nI i)) (ix v) 7 (ix v))) i).2 < (fun i => bcS (minsP (ix y) (up2 N 2 (ix h) (nI i)) (ix v) 7 (ix v))) i := by
                   rw [← hm, ← hg]
                   exact Int32.not_le.mp h70
                 rw [if_pos hq, ← hg, hxi]))
        · refine a_iload C0 0 dX5_friendFor_73 rfl ?_
          refine a_istore (ls2 := [(5, _), (7, _), (0, _), (1, _), (2, _), (3, _), (4, _), (6, _)]) C0 dX5_friendFor_75 (lt_b rfl) rfl ?_
          refine a_iload C0 7 dX5_friendFor_77 rfl ?_
          refine a_istore (ls2 := [(4, _), (5, _), (7, _), (0, _), (1, _), (2, _), (3, _), (6, _)]) C0 dX5_friendFor_79 (lt_b rfl) rfl ?_
          refine a_iinc (ls2 := [(6, _), (4, _), (5, _), (7, _), (0, _), (1, _), (2, _), (3, _)]) C0 7 1 dX5_friendFor_81 rfl rfl (lt_b rfl) rfl ?_
          refine a_goto C0 36 dX5_friendFor_84 rfl ?_
          refine AW.sub (ls2 := [(0, _), (1, _), (2, _), (3, _), (4, _), (5, _), (6, _)]) [4, 5, 6, 7, 1, 2, 0] rfl ?_
          exact ih (i + 1) _ _ _ _ (by omega) hlt (by rw [hxi, nI_1]) hc (by
            show _ = if (bsS (fun i => bcS (minsP (ix y) (up2 N 2 (ix h) (nI i)) (ix v) 7 (ix v))) i).2 < (fun i => bcS (minsP (ix y) (up2 N 2 (ix h) (nI i)) (ix v) 7 (ix v))) i then _ else _
            first
              | (have hq : ¬ (bsS (fun i => bcS (minsP (ix y) (up2 N 2 (ix h) (nI i)) (ix v) 7 (ix v))) i).2 < (fun i => bcS (minsP (ix y) (up2 N 2 (ix h) (nI i)) (ix v) 7 (ix v))) i := by
                   rw [← hm, ← hg]
                   exact Int32.not_lt.mpr h70
                 rw [if_neg hq]
                 exact hm)
              | (have hq : (bsS (fun i => bcS (minsP (ix y) (up2 N 2 (ix h) (nI i)) (ix v) 7 (ix v))) i).2 < (fun i => bcS (minsP (ix y) (up2 N 2 (ix h) (nI i)) (ix v) 7 (ix v))) i := by
                   rw [← hm, ← hg]
                   exact Int32.not_le.mp h70
                 rw [if_pos hq, ← hg, hxi]))
  refine a_iload_n C0 1 dX5_friendFor_0 rfl rfl ?_
  refine a_callS _ 1 C0 EM.z (c_X5_isHouse l G) u_c_X5_isHouse u_m_X5_101 u_st_X5_isHouse u_in_X5 hy_X5_isHouse.2 (hRk rfl) rfl rfl (le_b rfl) dX5_friendFor_1 (k_ro EM.z ?_)
  refine a_if_eqb C0 25 dX5_friendFor_4 rfl (fun h4 => ?_) (fun h4 => ?_)
  · refine a_iconst C0 (-1) dX5_friendFor_25 rfl ?_
    refine a_iret C0 hr dX5_friendFor_26 ?_
    have hc : ¬ (isHo h ∧ isTl N v ∧ (1 ≤ y ∧ y ≤ 30)) := fun q => by
      first
        | exact h4 q.1
        | exact h12 q.2.1
        | exact h22 q.2.2
    exact tr_ (if_neg hc).symm
  · refine a_aload_n C0 0 dX5_friendFor_7 rfl rfl ?_
    refine a_iload_n C0 2 dX5_friendFor_8 rfl rfl ?_
    refine a_callV _ 1 C0 EM.refl (c_X5_isTale l G rfl) u_c_X5_isTale u_m_X5_108 u_im_X5_isTale u_se_X5_isTale u_in_X5 hy_X5_isTale rfl (lt_b rfl) rfl (hRk rfl) rfl rfl (le_b rfl) dX5_friendFor_9 (k_ro EM.refl ?_)
    refine a_if_eqb C0 25 dX5_friendFor_12 rfl (fun h12 => ?_) (fun h12 => ?_)
    · refine a_iconst C0 (-1) dX5_friendFor_25 rfl ?_
      refine a_iret C0 hr dX5_friendFor_26 ?_
      have hc : ¬ (isHo h ∧ isTl N v ∧ (1 ≤ y ∧ y ≤ 30)) := fun q => by
        first
          | exact h4 q.1
          | exact h12 q.2.1
          | exact h22 q.2.2
      exact tr_ (if_neg hc).symm
    · refine a_iload_n C0 3 dX5_friendFor_15 rfl rfl ?_
      refine a_iconst C0 1 dX5_friendFor_16 rfl ?_
      refine a_bipush C0 30 dX5_friendFor_17 rfl ?_
      refine a_callS _ 3 C0 EM.z (c_X5_isWithin l G) u_c_X5_isWithin u_m_X5_55 u_st_X5_isWithin u_in_X5 hy_X5_isWithin.2 (hRk rfl) rfl rfl (le_b rfl) dX5_friendFor_19 (k_ro EM.z ?_)
      refine a_if_neb C0 27 dX5_friendFor_22 rfl (fun h22 => ?_) (fun h22 => ?_)
      · refine a_iconst C0 0 dX5_friendFor_27 rfl ?_
        refine a_istore (ls2 := [(4, _), (0, _), (1, _), (2, _), (3, _)]) C0 dX5_friendFor_28 (lt_b rfl) rfl ?_
        refine a_iconst C0 (-1) dX5_friendFor_30 rfl ?_
        refine a_istore (ls2 := [(5, _), (4, _), (0, _), (1, _), (2, _), (3, _)]) C0 dX5_friendFor_31 (lt_b rfl) rfl ?_
        refine a_iconst C0 0 dX5_friendFor_33 rfl ?_
        refine a_istore (ls2 := [(6, _), (5, _), (4, _), (0, _), (1, _), (2, _), (3, _)]) C0 dX5_friendFor_34 (lt_b rfl) rfl ?_
        refine AW.sub (ls2 := [(0, _), (1, _), (2, _), (3, _), (4, _), (5, _), (6, _)]) [3, 4, 5, 6, 2, 1, 0] rfl ?_
        exact lp 9 0 _ _ _ _ (by omega) (Nat.zero_le _) rfl ⟨h4, h12, h22⟩ rfl
      · refine a_iconst C0 (-1) dX5_friendFor_25 rfl ?_
        refine a_iret C0 hr dX5_friendFor_26 ?_
        have hc : ¬ (isHo h ∧ isTl N v ∧ (1 ≤ y ∧ y ≤ 30)) := fun q => by
          first
            | exact h4 q.1
            | exact h12 q.2.1
            | exact h22 q.2.2
        exact tr_ (if_neg hc).symm
set_option maxRecDepth 100000 in
set_option maxHeartbeats 4000000 in
theorem c_X5_kindFor (l : Launch) (G : GE) {ad : Nat → Nat} {M : WM} {O : Nat → Int32} {N K T B R S H Z : WM} {v y : Int32} {nT : Nat} (w : WFP N nT) (hM : M = mkX O N K T B R S H Z)  : CT l G yX5_kindFor cX5_kindFor 7 (some .int) 6 [.ref (ad 0), .int v, .int y] 54 ad (shX G ad) M (PI (fun r u => r = (if (isTl N v ∧ (1 ≤ y ∧ y ≤ 30)) then (bsS (fun i => bcS (minsP (ix y) (up2 N 4 (ix v) (nI i)) (ix v) 7 (ix v))) 6).1 else -1) ∧ ∃ T2, u = mkX O N K T2 B R S H Z)) := by
  refine CT.of (own := RX5) rfl rfl (le_b rfl) fun p e s m args below meth c A C0 hr => ?_
  refine AW.lo (ls2 := [(0, _), (1, _), (2, _)]) rfl ?_
  subst hM
  have lp : ∀ (n : Nat) (i : Nat) (a b xi : Int32) (T1 : WM), 6 - i < n → (i ≤ 6) → (xi = nI i) → ((isTl N v ∧ (1 ≤ y ∧ y ≤ 30))) → ((a, b) = bsS (fun i => bcS (minsP (ix y) (up2 N 4 (ix v) (nI i)) (ix v) 7 (ix v))) i) → AW p l e (rmk 6) s m args below meth c G A 54 ad (shX G ad) 7 0 0 (MQ below (CQ G 54 ad (shX G ad) A (PI (fun r u => r = (if (isTl N v ∧ (1 ≤ y ∧ y ≤ 30)) then (bsS (fun i => bcS (minsP (ix y) (up2 N 4 (ix v) (nI i)) (ix v) 7 (ix v))) 6).1 else -1) ∧ ∃ T2, u = mkX O N K T2 B R S H Z))) args s 0 0 A) 28 [(0, .ref (ad 0)), (1, .int v), (2, .int y), (3, .int a), (4, .int b), (5, .int xi)] [] (mkX O N K T1 B R S H Z) := by
    intro n
    induction n with
    | zero =>
      intro i a b xi T1 hn
      exact absurd hn (Nat.not_lt_zero _)
    | succ n ih =>
      intro i a b xi T1 hn hi hxi hc hm
      have hv := (isTl_in w).mp hc.1
      have hx : IX v (ix v) 8 := IX.v (vp_le hv w.2.1)
      have ht : ix v < nT := vp_lt hv
      refine a_iload C0 5 dX5_kindFor_28 rfl ?_
      refine a_bipush C0 6 dX5_kindFor_30 rfl ?_
      refine a_icmp_ge C0 78 dX5_kindFor_32 rfl (fun h32 => ?_) (fun h32 => ?_)
      · refine a_iload_n C0 3 dX5_kindFor_78 rfl rfl ?_
        refine a_iret C0 hr dX5_kindFor_79 ?_
        have e : i = 6 := Nat.le_antisymm hi (i_ge (T := 6) hxi rfl (by omega) (by omega) h32)
        subst e
        refine tr_ ?_
        rw [if_pos hc, ← hm]
      · have hlt : i < 6 := i_lt (T := 6) hxi rfl (by omega) (by omega) h32
        have hg : bcS (minsP (ix y) (up2 N 4 (ix v) xi) (ix v) 7 (ix v)) = (fun i => bcS (minsP (ix y) (up2 N 4 (ix v) (nI i)) (ix v) 7 (ix v))) i := by rw [hxi]
        refine a_aload_n C0 0 dX5_kindFor_35 rfl rfl ?_
        refine a_callV _ 0 C0 EM.refl (c_X5_startTrial l G rfl) u_c_X5_startTrial u_m_X5_181 u_im_X5_startTrial u_se_X5_startTrial u_in_X5 hy_X5_startTrial rfl (lt_b rfl) rfl (hRk rfl) rfl rfl (le_b rfl) dX5_kindFor_36 (k_vo ?_)
        refine a_aload_n C0 0 dX5_kindFor_39 rfl rfl ?_
        refine g_X5_19 C0 (lt_b rfl) rfl rfl dX5_kindFor_40 ?_
        refine g_X5_111 C0 (lt_b rfl) rfl rfl dX5_kindFor_43 ?_
        refine a_iload_n C0 1 dX5_kindFor_46 rfl rfl ?_
        refine a_iload C0 5 dX5_kindFor_47 rfl ?_
        refine a_iast C0 _ (lt_b rfl) (fun _ => rfl) hx.1 hx.2 dX5_kindFor_49 ?_
        refine AW.cg (M := (mkX O N K (up2 N 4 (ix v) xi) B R S H Z)) (fun c hc => mkX_Tu (q := 4) (by decide) c hc) ?_
        refine a_aload_n C0 0 dX5_kindFor_50 rfl rfl ?_
        refine a_iload_n C0 1 dX5_kindFor_51 rfl rfl ?_
        refine a_iload_n C0 2 dX5_kindFor_52 rfl rfl ?_
        refine a_callV _ 2 C0 EM.refl (c_X5_triedReach l G hx w.kd ht rfl) u_c_X5_triedReach u_m_X5_194 u_im_X5_triedReach u_se_X5_triedReach u_in_X5 hy_X5_triedReach rfl (lt_b rfl) rfl (hRk rfl) rfl rfl (le_b rfl) dX5_kindFor_53 (k_i fun r53 u53 q53 => ?_)
        obtain ⟨rfl, T2, rfl⟩ := q53
        refine a_istore (ls2 := [(6, _), (0, _), (1, _), (2, _), (3, _), (4, _), (5, _)]) C0 dX5_kindFor_56 (lt_b rfl) rfl ?_
        refine a_iload C0 0 dX5_kindFor_58 rfl ?_
        refine a_iload C0 5 dX5_kindFor_60 rfl ?_
        refine a_icmp_le C0 72 dX5_kindFor_62 rfl (fun h62 => ?_) (fun h62 => ?_)
        · refine a_iinc (ls2 := [(5, _), (6, _), (0, _), (1, _), (2, _), (3, _), (4, _)]) C0 6 1 dX5_kindFor_72 rfl rfl (lt_b rfl) rfl ?_
          refine a_goto C0 28 dX5_kindFor_75 rfl ?_
          refine AW.sub (ls2 := [(0, _), (1, _), (2, _), (3, _), (4, _), (5, _)]) [2, 3, 4, 5, 6, 0] rfl ?_
          exact ih (i + 1) _ _ _ _ (by omega) hlt (by rw [hxi, nI_1]) hc (by
            show _ = if (bsS (fun i => bcS (minsP (ix y) (up2 N 4 (ix v) (nI i)) (ix v) 7 (ix v))) i).2 < (fun i => bcS (minsP (ix y) (up2 N 4 (ix v) (nI i)) (ix v) 7 (ix v))) i then _ else _
            first
              | (have hq : ¬ (bsS (fun i => bcS (minsP (ix y) (up2 N 4 (ix v) (nI i)) (ix v) 7 (ix v))) i).2 < (fun i => bcS (minsP (ix y) (up2 N 4 (ix v) (nI i)) (ix v) 7 (ix v))) i := by
                   rw [← hm, ← hg]
                   exact Int32.not_lt.mpr h62
                 rw [if_neg hq]
                 exact hm)
              | (have hq : (bsS (fun i => bcS (minsP (ix y) (up2 N 4 (ix v) (nI i)) (ix v) 7 (ix v))) i).2 < (fun i => bcS (minsP (ix y) (up2 N 4 (ix v) (nI i)) (ix v) 7 (ix v))) i := by
                   rw [← hm, ← hg]
                   exact Int32.not_le.mp h62
                 rw [if_pos hq, ← hg, hxi]))
        · refine a_iload C0 0 dX5_kindFor_65 rfl ?_
          refine a_istore (ls2 := [(4, _), (6, _), (0, _), (1, _), (2, _), (3, _), (5, _)]) C0 dX5_kindFor_67 (lt_b rfl) rfl ?_
          refine a_iload C0 6 dX5_kindFor_69 rfl ?_
          refine a_istore_n (ls2 := [(3, _), (4, _), (6, _), (0, _), (1, _), (2, _), (5, _)]) C0 dX5_kindFor_71 rfl (lt_b rfl) rfl ?_
          refine a_iinc (ls2 := [(5, _), (3, _), (4, _), (6, _), (0, _), (1, _), (2, _)]) C0 6 1 dX5_kindFor_72 rfl rfl (lt_b rfl) rfl ?_
          refine a_goto C0 28 dX5_kindFor_75 rfl ?_
          refine AW.sub (ls2 := [(0, _), (1, _), (2, _), (3, _), (4, _), (5, _)]) [4, 5, 6, 1, 2, 0] rfl ?_
          exact ih (i + 1) _ _ _ _ (by omega) hlt (by rw [hxi, nI_1]) hc (by
            show _ = if (bsS (fun i => bcS (minsP (ix y) (up2 N 4 (ix v) (nI i)) (ix v) 7 (ix v))) i).2 < (fun i => bcS (minsP (ix y) (up2 N 4 (ix v) (nI i)) (ix v) 7 (ix v))) i then _ else _
            first
              | (have hq : ¬ (bsS (fun i => bcS (minsP (ix y) (up2 N 4 (ix v) (nI i)) (ix v) 7 (ix v))) i).2 < (fun i => bcS (minsP (ix y) (up2 N 4 (ix v) (nI i)) (ix v) 7 (ix v))) i := by
                   rw [← hm, ← hg]
                   exact Int32.not_lt.mpr h62
                 rw [if_neg hq]
                 exact hm)
              | (have hq : (bsS (fun i => bcS (minsP (ix y) (up2 N 4 (ix v) (nI i)) (ix v) 7 (ix v))) i).2 < (fun i => bcS (minsP (ix y) (up2 N 4 (ix v) (nI i)) (ix v) 7 (ix v))) i := by
                   rw [← hm, ← hg]
                   exact Int32.not_le.mp h62
                 rw [if_pos hq, ← hg, hxi]))
  refine a_aload_n C0 0 dX5_kindFor_0 rfl rfl ?_
  refine a_iload_n C0 1 dX5_kindFor_1 rfl rfl ?_
  refine a_callV _ 1 C0 EM.refl (c_X5_isTale l G rfl) u_c_X5_isTale u_m_X5_108 u_im_X5_isTale u_se_X5_isTale u_in_X5 hy_X5_isTale rfl (lt_b rfl) rfl (hRk rfl) rfl rfl (le_b rfl) dX5_kindFor_2 (k_ro EM.refl ?_)
  refine a_if_eqb C0 18 dX5_kindFor_5 rfl (fun h5 => ?_) (fun h5 => ?_)
  · refine a_iconst C0 (-1) dX5_kindFor_18 rfl ?_
    refine a_iret C0 hr dX5_kindFor_19 ?_
    have hc : ¬ (isTl N v ∧ (1 ≤ y ∧ y ≤ 30)) := fun q => by
      first
        | exact h5 q.1
        | exact h15 q.2
    exact tr_ (if_neg hc).symm
  · refine a_iload_n C0 2 dX5_kindFor_8 rfl rfl ?_
    refine a_iconst C0 1 dX5_kindFor_9 rfl ?_
    refine a_bipush C0 30 dX5_kindFor_10 rfl ?_
    refine a_callS _ 3 C0 EM.z (c_X5_isWithin l G) u_c_X5_isWithin u_m_X5_55 u_st_X5_isWithin u_in_X5 hy_X5_isWithin.2 (hRk rfl) rfl rfl (le_b rfl) dX5_kindFor_12 (k_ro EM.z ?_)
    refine a_if_neb C0 20 dX5_kindFor_15 rfl (fun h15 => ?_) (fun h15 => ?_)
    · refine a_iconst C0 0 dX5_kindFor_20 rfl ?_
      refine a_istore_n (ls2 := [(3, _), (0, _), (1, _), (2, _)]) C0 dX5_kindFor_21 rfl (lt_b rfl) rfl ?_
      refine a_iconst C0 (-1) dX5_kindFor_22 rfl ?_
      refine a_istore (ls2 := [(4, _), (3, _), (0, _), (1, _), (2, _)]) C0 dX5_kindFor_23 (lt_b rfl) rfl ?_
      refine a_iconst C0 0 dX5_kindFor_25 rfl ?_
      refine a_istore (ls2 := [(5, _), (4, _), (3, _), (0, _), (1, _), (2, _)]) C0 dX5_kindFor_26 (lt_b rfl) rfl ?_
      refine AW.sub (ls2 := [(0, _), (1, _), (2, _), (3, _), (4, _), (5, _)]) [3, 4, 5, 2, 1, 0] rfl ?_
      exact lp 7 0 _ _ _ _ (by omega) (Nat.zero_le _) rfl ⟨h5, h15⟩ rfl
    · refine a_iconst C0 (-1) dX5_kindFor_18 rfl ?_
      refine a_iret C0 hr dX5_kindFor_19 ?_
      have hc : ¬ (isTl N v ∧ (1 ≤ y ∧ y ≤ 30)) := fun q => by
        first
          | exact h5 q.1
          | exact h15 q.2
      exact tr_ (if_neg hc).symm
set_option maxRecDepth 100000 in
set_option maxHeartbeats 4000000 in
theorem c_X5_boxFor (l : Launch) (G : GE) {ad : Nat → Nat} {M : WM} {O : Nat → Int32} {N K T B R S H Z : WM} {v y : Int32} {nT : Nat} (w : WFP N nT) (hM : M = mkX O N K T B R S H Z)  : CT l G yX5_boxFor cX5_boxFor 7 (some .int) 6 [.ref (ad 0), .int v, .int y] 54 ad (shX G ad) M (PI (fun r u => r = (if (isTl N v ∧ (1 ≤ y ∧ y ≤ 30)) then (bxS N (minsP (ix y) (up2 N 0 7 (N 0 7)) (ix v) 5 (ix v)) (fun i => minsP (ix y) (up2 N 0 7 (N 0 7 ||| bitI i)) (ix v) 5 (ix v)) 8).1 else -1) ∧ ∃ T2, u = mkX O N K T2 B R S H Z)) := by
  refine CT.of (own := RX5) rfl rfl (le_b rfl) fun p e s m args below meth c A C0 hr => ?_
  refine AW.lo (ls2 := [(0, _), (1, _), (2, _)]) rfl ?_
  subst hM
  have lp : ∀ (n : Nat) (i : Nat) (a b xi : Int32) (T1 : WM), 8 - i < n → (i ≤ 8) → (xi = nI i) → ((isTl N v ∧ (1 ≤ y ∧ y ≤ 30))) → ((a, b) = bxS N (minsP (ix y) (up2 N 0 7 (N 0 7)) (ix v) 5 (ix v)) (fun i => minsP (ix y) (up2 N 0 7 (N 0 7 ||| bitI i)) (ix v) 5 (ix v)) i) → AW p l e (rmk 6) s m args below meth c G A 54 ad (shX G ad) 7 0 0 (MQ below (CQ G 54 ad (shX G ad) A (PI (fun r u => r = (if (isTl N v ∧ (1 ≤ y ∧ y ≤ 30)) then (bxS N (minsP (ix y) (up2 N 0 7 (N 0 7)) (ix v) 5 (ix v)) (fun i => minsP (ix y) (up2 N 0 7 (N 0 7 ||| bitI i)) (ix v) 5 (ix v)) 8).1 else -1) ∧ ∃ T2, u = mkX O N K T2 B R S H Z))) args s 0 0 A) 41 [(0, .ref (ad 0)), (1, .int v), (2, .int y), (3, .int a), (4, .int b), (5, .int xi)] [] (mkX O N K T1 B R S H Z) := by
    intro n
    induction n with
    | zero =>
      intro i a b xi T1 hn
      exact absurd hn (Nat.not_lt_zero _)
    | succ n ih =>
      intro i a b xi T1 hn hi hxi hc hm
      have hv := (isTl_in w).mp hc.1
      have hx : IX v (ix v) 8 := IX.v (vp_le hv w.2.1)
      have ht : ix v < nT := vp_lt hv
      refine a_iload C0 5 dX5_boxFor_41 rfl ?_
      refine a_bipush C0 8 dX5_boxFor_43 rfl ?_
      refine a_icmp_ge C0 103 dX5_boxFor_45 rfl (fun h45 => ?_) (fun h45 => ?_)
      · refine a_iload_n C0 3 dX5_boxFor_103 rfl rfl ?_
        refine a_iret C0 hr dX5_boxFor_104 ?_
        have e : i = 8 := Nat.le_antisymm hi (i_ge (T := 8) hxi rfl (by omega) (by omega) h45)
        subst e
        refine tr_ ?_
        rw [if_pos hc, ← hm]
      · have hlt : i < 8 := i_lt (T := 8) hxi rfl (by omega) (by omega) h45
        have hg : minsP (ix y) (up2 N 0 7 (N 0 7 ||| 1 <<< (xi &&& 31))) (ix v) 5 (ix v) = (fun i => minsP (ix y) (up2 N 0 7 (N 0 7 ||| bitI i)) (ix v) 5 (ix v)) i := by rw [hxi]; rfl
        refine a_aload_n C0 0 dX5_boxFor_48 rfl rfl ?_
        refine g_X5_10 C0 (lt_b rfl) rfl rfl dX5_boxFor_49 ?_
        refine a_iload C0 5 dX5_boxFor_52 rfl ?_
        refine a_callV _ 1 C0 em_XN (c_X1_hasBox l G (ad := fun k => ad (1 + k))) u_c_X1_hasBox u_m_X5_147 u_im_X1_hasBox u_se_X1_hasBox u_in_X1 hy_X1_hasBox rfl (lt_b rfl) rfl (hRk rfl) rfl rfl (le_b rfl) dX5_boxFor_54 (k_ro em_XN ?_)
        refine a_if_eqb C0 63 dX5_boxFor_57 rfl (fun h57 => ?_) (fun h57 => ?_)
        · refine a_aload_n C0 0 dX5_boxFor_63 rfl rfl ?_
          refine a_iload_n C0 1 dX5_boxFor_64 rfl rfl ?_
          refine a_iload_n C0 2 dX5_boxFor_65 rfl rfl ?_
          refine a_aload_n C0 0 dX5_boxFor_66 rfl rfl ?_
          refine g_X5_10 C0 (lt_b rfl) rfl rfl dX5_boxFor_67 ?_
          refine g_X5_144 C0 (lt_b rfl) rfl rfl dX5_boxFor_70 ?_
          refine a_iconst C0 1 dX5_boxFor_73 rfl ?_
          refine a_iload C0 5 dX5_boxFor_74 rfl ?_
          refine a_ishl C0 dX5_boxFor_76 ?_
          refine a_ior C0 dX5_boxFor_77 ?_
          refine a_callV _ 3 C0 EM.refl (c_X5_triedHeat l G hx w ht rfl) u_c_X5_triedHeat u_m_X5_197 u_im_X5_triedHeat u_se_X5_triedHeat u_in_X5 hy_X5_triedHeat rfl (lt_b rfl) rfl (hRk rfl) rfl rfl (le_b rfl) dX5_boxFor_78 (k_i fun r78 u78 q78 => ?_)
          obtain ⟨rfl, T2, rfl⟩ := q78
          refine a_istore (ls2 := [(6, _), (0, _), (1, _), (2, _), (3, _), (4, _), (5, _)]) C0 dX5_boxFor_81 (lt_b rfl) rfl ?_
          refine a_iload C0 0 dX5_boxFor_83 rfl ?_
          refine a_iload C0 5 dX5_boxFor_85 rfl ?_
          refine a_icmp_le C0 97 dX5_boxFor_87 rfl (fun h87 => ?_) (fun h87 => ?_)
          · refine a_iinc (ls2 := [(5, _), (6, _), (0, _), (1, _), (2, _), (3, _), (4, _)]) C0 6 1 dX5_boxFor_97 rfl rfl (lt_b rfl) rfl ?_
            refine a_goto C0 41 dX5_boxFor_100 rfl ?_
            refine AW.sub (ls2 := [(0, _), (1, _), (2, _), (3, _), (4, _), (5, _)]) [2, 3, 4, 5, 6, 0] rfl ?_
            exact ih (i + 1) _ _ _ _ (by omega) hlt (by rw [hxi, nI_1]) hc (by
              show _ = if boxP N (nI i) then bxS N (minsP (ix y) (up2 N 0 7 (N 0 7)) (ix v) 5 (ix v)) (fun i => minsP (ix y) (up2 N 0 7 (N 0 7 ||| bitI i)) (ix v) 5 (ix v)) i else if (bxS N (minsP (ix y) (up2 N 0 7 (N 0 7)) (ix v) 5 (ix v)) (fun i => minsP (ix y) (up2 N 0 7 (N 0 7 ||| bitI i)) (ix v) 5 (ix v)) i).2 < (fun i => minsP (ix y) (up2 N 0 7 (N 0 7 ||| bitI i)) (ix v) 5 (ix v)) i then (nI i, (fun i => minsP (ix y) (up2 N 0 7 (N 0 7 ||| bitI i)) (ix v) 5 (ix v)) i) else bxS N (minsP (ix y) (up2 N 0 7 (N 0 7)) (ix v) 5 (ix v)) (fun i => minsP (ix y) (up2 N 0 7 (N 0 7 ||| bitI i)) (ix v) 5 (ix v)) i
              first
                | (have hb : boxP N (nI i) := by
                     rw [← hxi]
                     exact h57
                   rw [if_pos hb]
                   exact hm)
                | (have hb : ¬ boxP N (nI i) := by
                     rw [← hxi]
                     exact h57
                   have hq : ¬ (bxS N (minsP (ix y) (up2 N 0 7 (N 0 7)) (ix v) 5 (ix v)) (fun i => minsP (ix y) (up2 N 0 7 (N 0 7 ||| bitI i)) (ix v) 5 (ix v)) i).2 < (fun i => minsP (ix y) (up2 N 0 7 (N 0 7 ||| bitI i)) (ix v) 5 (ix v)) i := by
                     rw [← hm, ← hg]
                     exact Int32.not_lt.mpr h87
                   rw [if_neg hb, if_neg hq]
                   exact hm)
                | (have hb : ¬ boxP N (nI i) := by
                     rw [← hxi]
                     exact h57
                   have hq : (bxS N (minsP (ix y) (up2 N 0 7 (N 0 7)) (ix v) 5 (ix v)) (fun i => minsP (ix y) (up2 N 0 7 (N 0 7 ||| bitI i)) (ix v) 5 (ix v)) i).2 < (fun i => minsP (ix y) (up2 N 0 7 (N 0 7 ||| bitI i)) (ix v) 5 (ix v)) i := by
                     rw [← hm, ← hg]
                     exact Int32.not_le.mp h87
                   rw [if_neg hb, if_pos hq, ← hg, hxi]
                   try rfl))
          · refine a_iload C0 0 dX5_boxFor_90 rfl ?_
            refine a_istore (ls2 := [(4, _), (6, _), (0, _), (1, _), (2, _), (3, _), (5, _)]) C0 dX5_boxFor_92 (lt_b rfl) rfl ?_
            refine a_iload C0 6 dX5_boxFor_94 rfl ?_
            refine a_istore_n (ls2 := [(3, _), (4, _), (6, _), (0, _), (1, _), (2, _), (5, _)]) C0 dX5_boxFor_96 rfl (lt_b rfl) rfl ?_
            refine a_iinc (ls2 := [(5, _), (3, _), (4, _), (6, _), (0, _), (1, _), (2, _)]) C0 6 1 dX5_boxFor_97 rfl rfl (lt_b rfl) rfl ?_
            refine a_goto C0 41 dX5_boxFor_100 rfl ?_
            refine AW.sub (ls2 := [(0, _), (1, _), (2, _), (3, _), (4, _), (5, _)]) [4, 5, 6, 1, 2, 0] rfl ?_
            exact ih (i + 1) _ _ _ _ (by omega) hlt (by rw [hxi, nI_1]) hc (by
              show _ = if boxP N (nI i) then bxS N (minsP (ix y) (up2 N 0 7 (N 0 7)) (ix v) 5 (ix v)) (fun i => minsP (ix y) (up2 N 0 7 (N 0 7 ||| bitI i)) (ix v) 5 (ix v)) i else if (bxS N (minsP (ix y) (up2 N 0 7 (N 0 7)) (ix v) 5 (ix v)) (fun i => minsP (ix y) (up2 N 0 7 (N 0 7 ||| bitI i)) (ix v) 5 (ix v)) i).2 < (fun i => minsP (ix y) (up2 N 0 7 (N 0 7 ||| bitI i)) (ix v) 5 (ix v)) i then (nI i, (fun i => minsP (ix y) (up2 N 0 7 (N 0 7 ||| bitI i)) (ix v) 5 (ix v)) i) else bxS N (minsP (ix y) (up2 N 0 7 (N 0 7)) (ix v) 5 (ix v)) (fun i => minsP (ix y) (up2 N 0 7 (N 0 7 ||| bitI i)) (ix v) 5 (ix v)) i
              first
                | (have hb : boxP N (nI i) := by
                     rw [← hxi]
                     exact h57
                   rw [if_pos hb]
                   exact hm)
                | (have hb : ¬ boxP N (nI i) := by
                     rw [← hxi]
                     exact h57
                   have hq : ¬ (bxS N (minsP (ix y) (up2 N 0 7 (N 0 7)) (ix v) 5 (ix v)) (fun i => minsP (ix y) (up2 N 0 7 (N 0 7 ||| bitI i)) (ix v) 5 (ix v)) i).2 < (fun i => minsP (ix y) (up2 N 0 7 (N 0 7 ||| bitI i)) (ix v) 5 (ix v)) i := by
                     rw [← hm, ← hg]
                     exact Int32.not_lt.mpr h87
                   rw [if_neg hb, if_neg hq]
                   exact hm)
                | (have hb : ¬ boxP N (nI i) := by
                     rw [← hxi]
                     exact h57
                   have hq : (bxS N (minsP (ix y) (up2 N 0 7 (N 0 7)) (ix v) 5 (ix v)) (fun i => minsP (ix y) (up2 N 0 7 (N 0 7 ||| bitI i)) (ix v) 5 (ix v)) i).2 < (fun i => minsP (ix y) (up2 N 0 7 (N 0 7 ||| bitI i)) (ix v) 5 (ix v)) i := by
                     rw [← hm, ← hg]
                     exact Int32.not_le.mp h87
                   rw [if_neg hb, if_pos hq, ← hg, hxi]
                   try rfl))
        · refine a_goto C0 97 dX5_boxFor_60 rfl ?_
          refine a_iinc (ls2 := [(5, _), (0, _), (1, _), (2, _), (3, _), (4, _)]) C0 5 1 dX5_boxFor_97 rfl rfl (lt_b rfl) rfl ?_
          refine a_goto C0 41 dX5_boxFor_100 rfl ?_
          refine AW.sub (ls2 := [(0, _), (1, _), (2, _), (3, _), (4, _), (5, _)]) [1, 2, 3, 4, 5, 0] rfl ?_
          exact ih (i + 1) _ _ _ _ (by omega) hlt (by rw [hxi, nI_1]) hc (by
            show _ = if boxP N (nI i) then bxS N (minsP (ix y) (up2 N 0 7 (N 0 7)) (ix v) 5 (ix v)) (fun i => minsP (ix y) (up2 N 0 7 (N 0 7 ||| bitI i)) (ix v) 5 (ix v)) i else if (bxS N (minsP (ix y) (up2 N 0 7 (N 0 7)) (ix v) 5 (ix v)) (fun i => minsP (ix y) (up2 N 0 7 (N 0 7 ||| bitI i)) (ix v) 5 (ix v)) i).2 < (fun i => minsP (ix y) (up2 N 0 7 (N 0 7 ||| bitI i)) (ix v) 5 (ix v)) i then (nI i, (fun i => minsP (ix y) (up2 N 0 7 (N 0 7 ||| bitI i)) (ix v) 5 (ix v)) i) else bxS N (minsP (ix y) (up2 N 0 7 (N 0 7)) (ix v) 5 (ix v)) (fun i => minsP (ix y) (up2 N 0 7 (N 0 7 ||| bitI i)) (ix v) 5 (ix v)) i
            first
              | (have hb : boxP N (nI i) := by
                   rw [← hxi]
                   exact h57
                 rw [if_pos hb]
                 exact hm)
              | (have hb : ¬ boxP N (nI i) := by
                   rw [← hxi]
                   exact h57
                 have hq : ¬ (bxS N (minsP (ix y) (up2 N 0 7 (N 0 7)) (ix v) 5 (ix v)) (fun i => minsP (ix y) (up2 N 0 7 (N 0 7 ||| bitI i)) (ix v) 5 (ix v)) i).2 < (fun i => minsP (ix y) (up2 N 0 7 (N 0 7 ||| bitI i)) (ix v) 5 (ix v)) i := by
                   rw [← hm, ← hg]
                   exact Int32.not_lt.mpr h87
                 rw [if_neg hb, if_neg hq]
                 exact hm)
              | (have hb : ¬ boxP N (nI i) := by
                   rw [← hxi]
                   exact h57
                 have hq : (bxS N (minsP (ix y) (up2 N 0 7 (N 0 7)) (ix v) 5 (ix v)) (fun i => minsP (ix y) (up2 N 0 7 (N 0 7 ||| bitI i)) (ix v) 5 (ix v)) i).2 < (fun i => minsP (ix y) (up2 N 0 7 (N 0 7 ||| bitI i)) (ix v) 5 (ix v)) i := by
                   rw [← hm, ← hg]
                   exact Int32.not_le.mp h87
                 rw [if_neg hb, if_pos hq, ← hg, hxi]
                 try rfl))
  refine a_aload_n C0 0 dX5_boxFor_0 rfl rfl ?_
  refine a_iload_n C0 1 dX5_boxFor_1 rfl rfl ?_
  refine a_callV _ 1 C0 EM.refl (c_X5_isTale l G rfl) u_c_X5_isTale u_m_X5_108 u_im_X5_isTale u_se_X5_isTale u_in_X5 hy_X5_isTale rfl (lt_b rfl) rfl (hRk rfl) rfl rfl (le_b rfl) dX5_boxFor_2 (k_ro EM.refl ?_)
  refine a_if_eqb C0 18 dX5_boxFor_5 rfl (fun h5 => ?_) (fun h5 => ?_)
  · refine a_iconst C0 (-1) dX5_boxFor_18 rfl ?_
    refine a_iret C0 hr dX5_boxFor_19 ?_
    have hc : ¬ (isTl N v ∧ (1 ≤ y ∧ y ≤ 30)) := fun q => by
      first
        | exact h5 q.1
        | exact h15 q.2
    exact tr_ (if_neg hc).symm
  · refine a_iload_n C0 2 dX5_boxFor_8 rfl rfl ?_
    refine a_iconst C0 1 dX5_boxFor_9 rfl ?_
    refine a_bipush C0 30 dX5_boxFor_10 rfl ?_
    refine a_callS _ 3 C0 EM.z (c_X5_isWithin l G) u_c_X5_isWithin u_m_X5_55 u_st_X5_isWithin u_in_X5 hy_X5_isWithin.2 (hRk rfl) rfl rfl (le_b rfl) dX5_boxFor_12 (k_ro EM.z ?_)
    refine a_if_neb C0 20 dX5_boxFor_15 rfl (fun h15 => ?_) (fun h15 => ?_)
    · have hv := (isTl_in w).mp h5
      have hx : IX v (ix v) 8 := IX.v (vp_le hv w.2.1)
      have ht : ix v < nT := vp_lt hv
      refine a_bipush C0 (-3) dX5_boxFor_20 rfl ?_
      refine a_istore_n (ls2 := [(3, _), (0, _), (1, _), (2, _)]) C0 dX5_boxFor_22 rfl (lt_b rfl) rfl ?_
      refine a_aload_n C0 1 dX5_boxFor_23 rfl rfl ?_
      refine a_iload_n C0 2 dX5_boxFor_24 rfl rfl ?_
      refine a_iload_n C0 3 dX5_boxFor_25 rfl rfl ?_
      refine a_aload_n C0 1 dX5_boxFor_26 rfl rfl ?_
      refine g_X5_10 C0 (lt_b rfl) rfl rfl dX5_boxFor_27 ?_
      refine g_X5_144 C0 (lt_b rfl) rfl rfl dX5_boxFor_30 ?_
      refine a_callV _ 3 C0 EM.refl (c_X5_triedHeat l G hx w ht rfl) u_c_X5_triedHeat u_m_X5_197 u_im_X5_triedHeat u_se_X5_triedHeat u_in_X5 hy_X5_triedHeat rfl (lt_b rfl) rfl (hRk rfl) rfl rfl (le_b rfl) dX5_boxFor_33 (k_i fun r33 u33 q33 => ?_)
      obtain ⟨rfl, T2, rfl⟩ := q33
      refine a_istore (ls2 := [(4, _), (3, _), (0, _), (1, _), (2, _)]) C0 dX5_boxFor_36 (lt_b rfl) rfl ?_
      refine a_iconst C0 0 dX5_boxFor_38 rfl ?_
      refine a_istore (ls2 := [(5, _), (4, _), (3, _), (0, _), (1, _), (2, _)]) C0 dX5_boxFor_39 (lt_b rfl) rfl ?_
      refine AW.sub (ls2 := [(0, _), (1, _), (2, _), (3, _), (4, _), (5, _)]) [3, 4, 5, 2, 1, 0] rfl ?_
      exact lp 9 0 _ _ _ _ (by omega) (Nat.zero_le _) rfl ⟨h5, h15⟩ rfl
    · refine a_iconst C0 (-1) dX5_boxFor_18 rfl ?_
      refine a_iret C0 hr dX5_boxFor_19 ?_
      have hc : ¬ (isTl N v ∧ (1 ≤ y ∧ y ≤ 30)) := fun q => by
        first
          | exact h5 q.1
          | exact h15 q.2
      exact tr_ (if_neg hc).symm
set_option maxRecDepth 100000 in
set_option maxHeartbeats 4000000 in
theorem c_X5_heatFor (l : Launch) (G : GE) {ad : Nat → Nat} {M : WM} {O : Nat → Int32} {N K T B R S H Z : WM} {v h y : Int32} {nT : Nat} (w : WFP N nT) (hM : M = mkX O N K T B R S H Z)  : CT l G yX5_heatFor cX5_heatFor 5 (some .int) 5 [.ref (ad 0), .int v, .int h, .int y] 54 ad (shX G ad) M (PI (fun r u => r = (if (isTl N v ∧ isHo h ∧ (0 ≤ y ∧ y ≤ 30)) then hfS (fun i => huS (ix y + 1) (up2 N 5 (ix v) (nI i)) (ix v) (1 <<< (h &&& 31)) 0) 100 0 else -1) ∧ ∃ T2, u = mkX O N K T2 B R S H Z)) := by
  refine CT.of (own := RX5) rfl rfl (le_b rfl) fun p e s m args below meth c A C0 hr => ?_
  refine AW.lo (ls2 := [(0, _), (1, _), (2, _), (3, _)]) rfl ?_
  subst hM
  have lp : ∀ (n : Nat) (i : Nat) (xi : Int32) (T1 : WM), 100 - i < n → (i ≤ 100) → (xi = nI i) → ((isTl N v ∧ isHo h ∧ (0 ≤ y ∧ y ≤ 30))) → (hfS (fun i => huS (ix y + 1) (up2 N 5 (ix v) (nI i)) (ix v) (1 <<< (h &&& 31)) 0) (100 - i) i = hfS (fun i => huS (ix y + 1) (up2 N 5 (ix v) (nI i)) (ix v) (1 <<< (h &&& 31)) 0) 100 0) → AW p l e (rmk 5) s m args below meth c G A 54 ad (shX G ad) 5 0 0 (MQ below (CQ G 54 ad (shX G ad) A (PI (fun r u => r = (if (isTl N v ∧ isHo h ∧ (0 ≤ y ∧ y ≤ 30)) then hfS (fun i => huS (ix y + 1) (up2 N 5 (ix v) (nI i)) (ix v) (1 <<< (h &&& 31)) 0) 100 0 else -1) ∧ ∃ T2, u = mkX O N K T2 B R S H Z))) args s 0 0 A) 30 [(0, .ref (ad 0)), (1, .int v), (2, .int h), (3, .int y), (4, .int xi)] [] (mkX O N K T1 B R S H Z) := by
    intro n
    induction n with
    | zero =>
      intro i xi T1 hn
      exact absurd hn (Nat.not_lt_zero _)
    | succ n ih =>
      intro i xi T1 hn hi hxi hc hm
      have hv := (isTl_in w).mp hc.1
      have hx : IX v (ix v) 8 := IX.v (vp_le hv w.2.1)
      have ht : ix v < nT := vp_lt hv
      refine a_iload C0 4 dX5_heatFor_30 rfl ?_
      refine a_bipush C0 99 dX5_heatFor_32 rfl ?_
      refine a_icmp_gt C0 75 dX5_heatFor_34 rfl (fun h34 => ?_) (fun h34 => ?_)
      · refine a_bipush C0 (-3) dX5_heatFor_75 rfl ?_
        refine a_iret C0 hr dX5_heatFor_77 ?_
        refine tr_ ?_
        have hge : 99 < i := by
          rw [hxi] at h34
          exact (nI_ltI (a := 99) (by decide) (by omega)).mp h34
        rw [if_pos hc, ← hm, show 100 - i = 0 by omega]
        rfl
      · have hlt : i ≤ 99 := Nat.not_lt.mp fun z => h34 (by rw [hxi]; exact nI_lt (a := 99) z (by omega))
        have hg : huS (ix y + 1) (up2 N 5 (ix v) xi) (ix v) (1 <<< (h &&& 31)) 0 = (fun i => huS (ix y + 1) (up2 N 5 (ix v) (nI i)) (ix v) (1 <<< (h &&& 31)) 0) i := by rw [hxi]
        have hy3 := in_of (n := 30) (by decide) hc.2.2
        refine a_aload_n C0 0 dX5_heatFor_37 rfl rfl ?_
        refine a_callV _ 0 C0 EM.refl (c_X5_startTrial l G rfl) u_c_X5_startTrial u_m_X5_181 u_im_X5_startTrial u_se_X5_startTrial u_in_X5 hy_X5_startTrial rfl (lt_b rfl) rfl (hRk rfl) rfl rfl (le_b rfl) dX5_heatFor_38 (k_vo ?_)
        refine a_aload_n C0 0 dX5_heatFor_41 rfl rfl ?_
        refine g_X5_19 C0 (lt_b rfl) rfl rfl dX5_heatFor_42 ?_
        refine g_X5_114 C0 (lt_b rfl) rfl rfl dX5_heatFor_45 ?_
        refine a_iload_n C0 1 dX5_heatFor_48 rfl rfl ?_
        refine a_iload C0 4 dX5_heatFor_49 rfl ?_
        refine a_iast C0 _ (lt_b rfl) (fun _ => rfl) hx.1 hx.2 dX5_heatFor_51 ?_
        refine AW.cg (M := (mkX O N K (up2 N 5 (ix v) xi) B R S H Z)) (fun c hc => mkX_Tu (q := 5) (by decide) c hc) ?_
        refine a_aload_n C0 0 dX5_heatFor_52 rfl rfl ?_
        refine a_iload_n C0 1 dX5_heatFor_53 rfl rfl ?_
        refine a_iconst C0 1 dX5_heatFor_54 rfl ?_
        refine a_iload_n C0 2 dX5_heatFor_55 rfl rfl ?_
        refine a_ishl C0 dX5_heatFor_56 ?_
        refine a_iload_n C0 3 dX5_heatFor_57 rfl rfl ?_
        refine a_callV _ 3 C0 EM.refl (c_X5_triedUntilHeard l G (mm := ix y) hx w.heat ht ((IX.v hy3).eq (by decide)) (by have := vp_lt hy3; omega) rfl) u_c_X5_triedUntilHeard u_m_X5_187 u_im_X5_triedUntilHeard u_se_X5_triedUntilHeard u_in_X5 hy_X5_triedUntilHeard rfl (lt_b rfl) rfl (hRk rfl) rfl rfl (le_b rfl) dX5_heatFor_58 (k_i fun r58 u58 q58 => ?_)
        obtain ⟨rfl, T2, rfl⟩ := q58
        refine a_bipush C0 (-3) dX5_heatFor_61 rfl ?_
        refine a_icmp_eq C0 69 dX5_heatFor_63 rfl (fun h63 => ?_) (fun h63 => ?_)
        · refine a_iinc (ls2 := [(4, _), (0, _), (1, _), (2, _), (3, _)]) C0 4 1 dX5_heatFor_69 rfl rfl (lt_b rfl) rfl ?_
          refine a_goto C0 30 dX5_heatFor_72 rfl ?_
          refine AW.sub (ls2 := [(0, _), (1, _), (2, _), (3, _), (4, _)]) [1, 2, 3, 4, 0] rfl ?_
          exact ih (i + 1) _ _ (by omega) (by omega) (by rw [hxi, nI_1]) hc (by
            rw [← hm, show 100 - i = (100 - (i + 1)) + 1 by omega]
            exact (if_pos (hg ▸ h63)).symm)
        · refine a_iload C0 4 dX5_heatFor_66 rfl ?_
          refine a_iret C0 hr dX5_heatFor_68 ?_
          refine tr_ ?_
          rw [if_pos hc, ← hm, show 100 - i = (100 - (i + 1)) + 1 by omega, hxi]
          exact (if_neg (hg ▸ h63)).symm
  refine a_aload_n C0 0 dX5_heatFor_0 rfl rfl ?_
  refine a_iload_n C0 1 dX5_heatFor_1 rfl rfl ?_
  refine a_callV _ 1 C0 EM.refl (c_X5_isTale l G rfl) u_c_X5_isTale u_m_X5_108 u_im_X5_isTale u_se_X5_isTale u_in_X5 hy_X5_isTale rfl (lt_b rfl) rfl (hRk rfl) rfl rfl (le_b rfl) dX5_heatFor_2 (k_ro EM.refl ?_)
  refine a_if_eqb C0 25 dX5_heatFor_5 rfl (fun h5 => ?_) (fun h5 => ?_)
  · refine a_iconst C0 (-1) dX5_heatFor_25 rfl ?_
    refine a_iret C0 hr dX5_heatFor_26 ?_
    have hc : ¬ (isTl N v ∧ isHo h ∧ (0 ≤ y ∧ y ≤ 30)) := fun q => by
      first
        | exact h5 q.1
        | exact h12 q.2.1
        | exact h22 q.2.2
    exact tr_ (if_neg hc).symm
  · refine a_iload_n C0 2 dX5_heatFor_8 rfl rfl ?_
    refine a_callS _ 1 C0 EM.z (c_X5_isHouse l G) u_c_X5_isHouse u_m_X5_101 u_st_X5_isHouse u_in_X5 hy_X5_isHouse.2 (hRk rfl) rfl rfl (le_b rfl) dX5_heatFor_9 (k_ro EM.z ?_)
    refine a_if_eqb C0 25 dX5_heatFor_12 rfl (fun h12 => ?_) (fun h12 => ?_)
    · refine a_iconst C0 (-1) dX5_heatFor_25 rfl ?_
      refine a_iret C0 hr dX5_heatFor_26 ?_
      have hc : ¬ (isTl N v ∧ isHo h ∧ (0 ≤ y ∧ y ≤ 30)) := fun q => by
        first
          | exact h5 q.1
          | exact h12 q.2.1
          | exact h22 q.2.2
      exact tr_ (if_neg hc).symm
    · refine a_iload_n C0 3 dX5_heatFor_15 rfl rfl ?_
      refine a_iconst C0 0 dX5_heatFor_16 rfl ?_
      refine a_bipush C0 30 dX5_heatFor_17 rfl ?_
      refine a_callS _ 3 C0 EM.z (c_X5_isWithin l G) u_c_X5_isWithin u_m_X5_55 u_st_X5_isWithin u_in_X5 hy_X5_isWithin.2 (hRk rfl) rfl rfl (le_b rfl) dX5_heatFor_19 (k_ro EM.z ?_)
      refine a_if_neb C0 27 dX5_heatFor_22 rfl (fun h22 => ?_) (fun h22 => ?_)
      · refine a_iconst C0 0 dX5_heatFor_27 rfl ?_
        refine a_istore (ls2 := [(4, _), (0, _), (1, _), (2, _), (3, _)]) C0 dX5_heatFor_28 (lt_b rfl) rfl ?_
        refine AW.sub (ls2 := [(0, _), (1, _), (2, _), (3, _), (4, _)]) [1, 2, 3, 4, 0] rfl ?_
        exact lp 101 0 _ _ (by omega) (Nat.zero_le _) rfl ⟨h5, h12, h22⟩ rfl
      · refine a_iconst C0 (-1) dX5_heatFor_25 rfl ?_
        refine a_iret C0 hr dX5_heatFor_26 ?_
        have hc : ¬ (isTl N v ∧ isHo h ∧ (0 ≤ y ∧ y ≤ 30)) := fun q => by
          first
            | exact h5 q.1
            | exact h12 q.2.1
            | exact h22 q.2.2
        exact tr_ (if_neg hc).symm
set_option maxRecDepth 100000 in
set_option maxHeartbeats 4000000 in
theorem c_X5_keptFor (l : Launch) (G : GE) {ad : Nat → Nat} {M : WM} {O : Nat → Int32} {N K T B R S H Z : WM} {v y z : Int32} {nT : Nat} (w : WFP N nT) (hM : M = mkX O N K T B R S H Z)  : CT l G yX5_keptFor cX5_keptFor 6 (some .int) 6 [.ref (ad 0), .int v, .int y, .int z] 54 ad (shX G ad) M (PI (fun r u => r = (if (isTl N v ∧ (1 ≤ y ∧ y ≤ 20) ∧ (0 ≤ z ∧ z ≤ 99)) then koS (fun i => minsP (ix y) (up2 N 0 7 (nI i)) (ix v) 5 (ix v)) z 9 0 else -1) ∧ ∃ T2, u = mkX O N K T2 B R S H Z)) := by
  refine CT.of (own := RX5) rfl rfl (le_b rfl) fun p e s m args below meth c A C0 hr => ?_
  refine AW.lo (ls2 := [(0, _), (1, _), (2, _), (3, _)]) rfl ?_
  subst hM
  have lp : ∀ (n : Nat) (i : Nat) (xi : Int32) (T1 : WM), 9 - i < n → (i ≤ 9) → (xi = nI i) → (isTl N v ∧ (1 ≤ y ∧ y ≤ 20) ∧ (0 ≤ z ∧ z ≤ 99)) → (koS (fun i => minsP (ix y) (up2 N 0 7 (nI i)) (ix v) 5 (ix v)) z (9 - i) i = koS (fun i => minsP (ix y) (up2 N 0 7 (nI i)) (ix v) 5 (ix v)) z 9 0) → AW p l e (rmk 6) s m args below meth c G A 54 ad (shX G ad) 6 0 0 (MQ below (CQ G 54 ad (shX G ad) A (PI (fun r u => r = (if (isTl N v ∧ (1 ≤ y ∧ y ≤ 20) ∧ (0 ≤ z ∧ z ≤ 99)) then koS (fun i => minsP (ix y) (up2 N 0 7 (nI i)) (ix v) 5 (ix v)) z 9 0 else -1) ∧ ∃ T2, u = mkX O N K T2 B R S H Z))) args s 0 0 A) 30 [(0, .ref (ad 0)), (1, .int v), (2, .int y), (3, .int z), (4, .int xi)] [] (mkX O N K T1 B R S H Z) := by
    intro n
    induction n with
    | zero =>
      intro i xi T1 hn
      exact absurd hn (Nat.not_lt_zero _)
    | succ n ih =>
      intro i xi T1 hn hi hxi hc hm
      have hv := (isTl_in w).mp hc.1
      have hx : IX v (ix v) 8 := IX.v (vp_le hv w.2.1)
      have ht : ix v < nT := vp_lt hv
      have fin0 : i ≤ 8 → ∀ T2 : WM, kiS (fun i => minsP (ix y) (up2 N 0 7 (nI i)) (ix v) 5 (ix v)) z (nI i) 256 0 = none → AW p l e (rmk 6) s m args below meth c G A 54 ad (shX G ad) 6 0 0 (MQ below (CQ G 54 ad (shX G ad) A (PI (fun r u => r = (if (isTl N v ∧ (1 ≤ y ∧ y ≤ 20) ∧ (0 ≤ z ∧ z ≤ 99)) then koS (fun i => minsP (ix y) (up2 N 0 7 (nI i)) (ix v) 5 (ix v)) z 9 0 else -1) ∧ ∃ T2, u = mkX O N K T2 B R S H Z))) args s 0 0 A) 79 [(0, .ref (ad 0)), (1, .int v), (2, .int y), (3, .int z), (4, .int xi)] [] (mkX O N K T2 B R S H Z) := by
        intro hi8 T2 hnone
        refine a_iinc (ls2 := [(4, _), (0, _), (1, _), (2, _), (3, _)]) C0 4 1 dX5_keptFor_79 rfl rfl (lt_b rfl) rfl ?_
        refine a_goto C0 30 dX5_keptFor_82 rfl ?_
        refine AW.sub (ls2 := [(0, _), (1, _), (2, _), (3, _), (4, _)]) [1, 2, 3, 4, 0] rfl ?_
        exact ih (i + 1) _ _ (by omega) (by omega) (by rw [hxi, nI_1]) hc (by
          rw [← hm, show 9 - i = (9 - (i + 1)) + 1 by omega]
          show _ = (kiS (fun i => minsP (ix y) (up2 N 0 7 (nI i)) (ix v) 5 (ix v)) z (nI i) 256 0).getD _
          rw [hnone]
          rfl)
      refine a_iload C0 4 dX5_keptFor_30 rfl ?_
      refine a_bipush C0 8 dX5_keptFor_32 rfl ?_
      refine a_icmp_gt C0 85 dX5_keptFor_34 rfl (fun h34 => ?_) (fun h34 => ?_)
      · refine a_bipush C0 (-3) dX5_keptFor_85 rfl ?_
        refine a_iret C0 hr dX5_keptFor_87 ?_
        refine tr_ ?_
        have hge : 8 < i := by
          rw [hxi] at h34
          exact (nI_ltI (a := 8) (by decide) (by omega)).mp h34
        rw [if_pos hc, ← hm, show 9 - i = 0 by omega]
        rfl
      · have hi8 : i ≤ 8 := Nat.not_lt.mp fun q => h34 (by rw [hxi]; exact nI_lt (a := 8) q (by omega))
        have fin := fin0 hi8
        have lq : ∀ (n2 : Nat) (j : Nat) (xj : Int32) (T1 : WM), 256 - j < n2 → (j ≤ 256) → (xj = nI j) → (kiS (fun i => minsP (ix y) (up2 N 0 7 (nI i)) (ix v) 5 (ix v)) z (nI i) (256 - j) j = kiS (fun i => minsP (ix y) (up2 N 0 7 (nI i)) (ix v) 5 (ix v)) z (nI i) 256 0) → AW p l e (rmk 6) s m args below meth c G A 54 ad (shX G ad) 6 0 0 (MQ below (CQ G 54 ad (shX G ad) A (PI (fun r u => r = (if (isTl N v ∧ (1 ≤ y ∧ y ≤ 20) ∧ (0 ≤ z ∧ z ≤ 99)) then koS (fun i => minsP (ix y) (up2 N 0 7 (nI i)) (ix v) 5 (ix v)) z 9 0 else -1) ∧ ∃ T2, u = mkX O N K T2 B R S H Z))) args s 0 0 A) 40 [(0, .ref (ad 0)), (1, .int v), (2, .int y), (3, .int z), (4, .int xi), (5, .int xj)] [] (mkX O N K T1 B R S H Z) := by
          intro n2
          induction n2 with
          | zero =>
            intro j xj T1 hn
            exact absurd hn (Nat.not_lt_zero _)
          | succ n2 ih2 =>
            intro j xj T1 hn hj hxj hmj
            refine a_iload C0 5 dX5_keptFor_40 rfl ?_
            refine a_sipush C0 255 dX5_keptFor_42 rfl ?_
            refine a_icmp_gt C0 79 dX5_keptFor_45 rfl (fun h45 => ?_) (fun h45 => ?_)
            · refine AW.sub (ls2 := [(0, _), (1, _), (2, _), (3, _), (4, _)]) [0, 1, 2, 3, 4] rfl ?_
              refine fin T1 ?_
              have hge : 255 < j := by
                rw [hxj] at h45
                exact (nI_ltI (a := 255) (by decide) (by omega)).mp h45
              rw [← hmj, show 256 - j = 0 by omega]
              rfl
            · have hltj : j ≤ 255 := Nat.not_lt.mp fun q => h45 (by rw [hxj]; exact nI_lt (a := 255) q (by omega))
              have hg : minsP (ix y) (up2 N 0 7 xj) (ix v) 5 (ix v) = (fun i => minsP (ix y) (up2 N 0 7 (nI i)) (ix v) 5 (ix v)) j := by rw [hxj]
              refine a_iload C0 5 dX5_keptFor_48 rfl ?_
              refine a_callS _ 1 C0 EM.z (c_J6_bitCount_0f7a4 l G) u_c_J6_bitCount_0f7a4 u_m_X5_200 u_st_J6_bitCount_0f7a4 u_in_J6 hy_J6_bitCount_0f7a4.2 (hRk rfl) rfl rfl (le_b rfl) dX5_keptFor_50 (k_ro EM.z ?_)
              refine a_iload C0 4 dX5_keptFor_53 rfl ?_
              refine a_icmp_ne C0 73 dX5_keptFor_55 rfl (fun h55 => ?_) (fun h55 => ?_)
              · refine a_iinc (ls2 := [(5, _), (0, _), (1, _), (2, _), (3, _), (4, _)]) C0 5 1 dX5_keptFor_73 rfl rfl (lt_b rfl) rfl ?_
                refine a_goto C0 40 dX5_keptFor_76 rfl ?_
                refine AW.sub (ls2 := [(0, _), (1, _), (2, _), (3, _), (4, _), (5, _)]) [1, 2, 3, 4, 5, 0] rfl ?_
                exact ih2 (j + 1) _ _ (by omega) (by omega) (by rw [hxj, nI_1]) (by
                  rw [← hmj, show 256 - j = (256 - (j + 1)) + 1 by omega]
                  refine (if_neg ?_).symm
                  intro q
                  first
                    | exact h55 (by rw [hxi, hxj]; exact q.1)
                    | exact absurd q.2 (Int32.not_le.mpr (hg ▸ h67)))
              · refine a_aload_n C0 0 dX5_keptFor_58 rfl rfl ?_
                refine a_iload_n C0 1 dX5_keptFor_59 rfl rfl ?_
                refine a_iload_n C0 2 dX5_keptFor_60 rfl rfl ?_
                refine a_iload C0 5 dX5_keptFor_61 rfl ?_
                refine a_callV _ 3 C0 EM.refl (c_X5_triedHeat l G hx w ht rfl) u_c_X5_triedHeat u_m_X5_197 u_im_X5_triedHeat u_se_X5_triedHeat u_in_X5 hy_X5_triedHeat rfl (lt_b rfl) rfl (hRk rfl) rfl rfl (le_b rfl) dX5_keptFor_63 (k_i fun r63 u63 q63 => ?_)
                obtain ⟨rfl, T2, rfl⟩ := q63
                refine a_iload_n C0 3 dX5_keptFor_66 rfl rfl ?_
                refine a_icmp_lt C0 73 dX5_keptFor_67 rfl (fun h67 => ?_) (fun h67 => ?_)
                · refine a_iinc (ls2 := [(5, _), (0, _), (1, _), (2, _), (3, _), (4, _)]) C0 5 1 dX5_keptFor_73 rfl rfl (lt_b rfl) rfl ?_
                  refine a_goto C0 40 dX5_keptFor_76 rfl ?_
                  refine AW.sub (ls2 := [(0, _), (1, _), (2, _), (3, _), (4, _), (5, _)]) [1, 2, 3, 4, 5, 0] rfl ?_
                  exact ih2 (j + 1) _ _ (by omega) (by omega) (by rw [hxj, nI_1]) (by
                    rw [← hmj, show 256 - j = (256 - (j + 1)) + 1 by omega]
                    refine (if_neg ?_).symm
                    intro q
                    first
                      | exact h55 (by rw [hxi, hxj]; exact q.1)
                      | exact absurd q.2 (Int32.not_le.mpr (hg ▸ h67)))
                · refine a_iload C0 5 dX5_keptFor_70 rfl ?_
                  refine a_iret C0 hr dX5_keptFor_72 ?_
                  refine tr_ ?_
                  rw [if_pos hc, ← hm, show 9 - i = (9 - (i + 1)) + 1 by omega]
                  show _ = (kiS (fun i => minsP (ix y) (up2 N 0 7 (nI i)) (ix v) 5 (ix v)) z (nI i) 256 0).getD _
                  rw [← hmj, show 256 - j = (256 - (j + 1)) + 1 by omega]
                  rw [show kiS (fun i => minsP (ix y) (up2 N 0 7 (nI i)) (ix v) 5 (ix v)) z (nI i) (256 - (j + 1) + 1) j = some (nI j) from if_pos ⟨by rw [← hxi, ← hxj]; exact h55, Int32.not_lt.mp (hg ▸ h67)⟩, hxj]
                  rfl
        refine a_iconst C0 0 dX5_keptFor_37 rfl ?_
        refine a_istore (ls2 := [(5, _), (0, _), (1, _), (2, _), (3, _), (4, _)]) C0 dX5_keptFor_38 (lt_b rfl) rfl ?_
        refine AW.sub (ls2 := [(0, _), (1, _), (2, _), (3, _), (4, _), (5, _)]) [1, 2, 3, 4, 5, 0] rfl ?_
        exact lq 257 0 _ _ (by omega) (Nat.zero_le _) rfl rfl
        
  refine a_aload_n C0 0 dX5_keptFor_0 rfl rfl ?_
  refine a_iload_n C0 1 dX5_keptFor_1 rfl rfl ?_
  refine a_callV _ 1 C0 EM.refl (c_X5_isTale l G rfl) u_c_X5_isTale u_m_X5_108 u_im_X5_isTale u_se_X5_isTale u_in_X5 hy_X5_isTale rfl (lt_b rfl) rfl (hRk rfl) rfl rfl (le_b rfl) dX5_keptFor_2 (k_ro EM.refl ?_)
  refine a_if_eqb C0 25 dX5_keptFor_5 rfl (fun h5 => ?_) (fun h5 => ?_)
  · refine a_iconst C0 (-1) dX5_keptFor_25 rfl ?_
    refine a_iret C0 hr dX5_keptFor_26 ?_
    have hc : ¬ (isTl N v ∧ (1 ≤ y ∧ y ≤ 20) ∧ (0 ≤ z ∧ z ≤ 99)) := fun q => by
      first
        | exact h5 q.1
        | exact h15 q.2.1
        | exact h22 q.2.2
    exact tr_ (if_neg hc).symm
  · refine a_iload_n C0 2 dX5_keptFor_8 rfl rfl ?_
    refine a_iconst C0 1 dX5_keptFor_9 rfl ?_
    refine a_bipush C0 20 dX5_keptFor_10 rfl ?_
    refine a_callS _ 3 C0 EM.z (c_X5_isWithin l G) u_c_X5_isWithin u_m_X5_55 u_st_X5_isWithin u_in_X5 hy_X5_isWithin.2 (hRk rfl) rfl rfl (le_b rfl) dX5_keptFor_12 (k_ro EM.z ?_)
    refine a_if_eqb C0 25 dX5_keptFor_15 rfl (fun h15 => ?_) (fun h15 => ?_)
    · refine a_iconst C0 (-1) dX5_keptFor_25 rfl ?_
      refine a_iret C0 hr dX5_keptFor_26 ?_
      have hc : ¬ (isTl N v ∧ (1 ≤ y ∧ y ≤ 20) ∧ (0 ≤ z ∧ z ≤ 99)) := fun q => by
        first
          | exact h5 q.1
          | exact h15 q.2.1
          | exact h22 q.2.2
      exact tr_ (if_neg hc).symm
    · refine a_iload_n C0 3 dX5_keptFor_18 rfl rfl ?_
      refine a_callS _ 1 C0 EM.z (c_X5_isHeat l G) u_c_X5_isHeat u_m_X5_98 u_st_X5_isHeat u_in_X5 hy_X5_isHeat.2 (hRk rfl) rfl rfl (le_b rfl) dX5_keptFor_19 (k_ro EM.z ?_)
      refine a_if_neb C0 27 dX5_keptFor_22 rfl (fun h22 => ?_) (fun h22 => ?_)
      · refine a_iconst C0 0 dX5_keptFor_27 rfl ?_
        refine a_istore (ls2 := [(4, _), (0, _), (1, _), (2, _), (3, _)]) C0 dX5_keptFor_28 (lt_b rfl) rfl ?_
        refine AW.sub (ls2 := [(0, _), (1, _), (2, _), (3, _), (4, _)]) [1, 2, 3, 4, 0] rfl ?_
        exact lp 10 0 _ _ (by omega) (Nat.zero_le _) rfl ⟨h5, h15, h22⟩ rfl
      · refine a_iconst C0 (-1) dX5_keptFor_25 rfl ?_
        refine a_iret C0 hr dX5_keptFor_26 ?_
        have hc : ¬ (isTl N v ∧ (1 ≤ y ∧ y ≤ 20) ∧ (0 ≤ z ∧ z ≤ 99)) := fun q => by
          first
            | exact h5 q.1
            | exact h15 q.2.1
            | exact h22 q.2.2
        exact tr_ (if_neg hc).symm
