
theorem WFP.z {P : WM} {n : Nat} {v : Int32} (w : WFP P n) : WFP (up2 P 0 10 v) n := ⟨w.1, w.2.1, w.2.2.1, w.2.2.2⟩
theorem heN {P : WM} {n : Nat} {a : Int32} (h : a = sumP (fun i => bcS (P 7 i)) n) : a = heaP P n := h

set_option maxRecDepth 100000 in
set_option maxHeartbeats 4000000 in
theorem c_X5_spread (l : Launch) (G : GE) {ad : Nat → Nat} {M : WM} {O : Nat → Int32} {N K T B R S H Z : WM} {y : Int32} {nT : Nat} (w : WFP N nT) (hM : M = mkX O N K T B R S H Z)  : CT l G yX5_spread cX5_spread 6 (some .int) 5 [.ref (ad 0), .int y] 54 ad (shX G ad) M (PI (fun r u => r = (if (1 ≤ y ∧ y ≤ 30) then (spS N nT (heaP (passP N nT) nT) (ix y)).2 else -1) ∧ ∃ T2, u = mkX O N K T2 B R S H Z)) := by
  refine CT.of (own := RX5) rfl rfl (le_b rfl) fun p e s m args below meth c A C0 hr => ?_
  refine AW.lo (ls2 := [(0, _), (1, _)]) rfl ?_
  subst hM
  have lp : ∀ (n : Nat) (i : Nat) (xi a b : Int32) (T1 : WM), ix y - i < n → (i ≤ ix y) → (xi = nI i) → ((1 ≤ y ∧ y ≤ 30)) → ((a, b) = spS N nT (heaP (passP N nT) nT) i) → AW p l e (rmk 5) s m args below meth c G A 54 ad (shX G ad) 6 0 0 (MQ below (CQ G 54 ad (shX G ad) A (PI (fun r u => r = (if (1 ≤ y ∧ y ≤ 30) then (spS N nT (heaP (passP N nT) nT) (ix y)).2 else -1) ∧ ∃ T2, u = mkX O N K T2 B R S H Z))) args s 0 0 A) 45 [(0, .ref (ad 0)), (1, .int y), (2, .int (heaP (passP N nT) nT)), (3, .int a), (4, .int b), (5, .int xi)] [] (mkX O N K T1 B R S H Z) := by
    intro n
    induction n with
    | zero =>
      intro i xi a b T1 hn
      exact absurd hn (Nat.not_lt_zero _)
    | succ n ih =>
      intro i xi a b T1 hn hi hxi hc hm
      refine a_iload C0 5 dX5_spread_45 rfl ?_
      refine a_iload_n C0 1 dX5_spread_47 rfl rfl ?_
      refine a_icmp_ge C0 98 dX5_spread_48 rfl (fun h48 => ?_) (fun h48 => ?_)
      · refine a_iload C0 4 dX5_spread_98 rfl ?_
        refine a_iret C0 hr dX5_spread_100 ?_
        have e : i = ix y := Nat.le_antisymm hi (i_geY hxi (Nat.lt_of_le_of_lt hi (ix_lt _)) h48)
        subst e
        refine tr_ ?_
        rw [if_pos hc, ← hm]
      · have hlt : i < ix y := i_ltY hxi (Nat.lt_of_le_of_lt hi (ix_lt _)) h48
        refine a_aload_n C0 0 dX5_spread_51 rfl rfl ?_
        refine a_callV _ 0 C0 EM.refl (c_X5_startTrial l G rfl) u_c_X5_startTrial u_m_X5_181 u_im_X5_startTrial u_se_X5_startTrial u_in_X5 hy_X5_startTrial rfl (lt_b rfl) rfl (hRk rfl) rfl rfl (le_b rfl) dX5_spread_52 (k_vo ?_)
        refine a_aload_n C0 0 dX5_spread_55 rfl rfl ?_
        refine g_X5_19 C0 (lt_b rfl) rfl rfl dX5_spread_56 ?_
        refine a_iload_n C0 3 dX5_spread_59 rfl rfl ?_
        refine p_X5_70 C0 (lt_b rfl) rfl (lt_b rfl) rfl rfl dX5_spread_60 ?_
        have wz := (w.z (v := a)).draws
        refine AW.cg (M := (mkX O N K (up2 N 0 10 a) B R S H Z)) (fun c hc => mkX_Tu (q := 0) (by decide) c hc) ?_
        refine a_aload_n C0 0 dX5_spread_63 rfl rfl ?_
        refine g_X5_19 C0 (lt_b rfl) rfl rfl dX5_spread_64 ?_
        refine a_callV _ 0 C0 em_XT (c_X1_passMinuteByDraws l G w.z (ad := fun k => ad (17 + k))) u_c_X1_passMinuteByDraws u_m_X5_166 u_im_X1_passMinuteByDraws u_se_X1_passMinuteByDraws u_in_X1 hy_X1_passMinuteByDraws rfl (lt_b rfl) rfl (hRk rfl) rfl rfl (le_b rfl) dX5_spread_67 (k_vo ?_)
        refine a_aload_n C0 0 dX5_spread_70 rfl rfl ?_
        refine g_X5_19 C0 (lt_b rfl) rfl rfl dX5_spread_71 ?_
        refine g_X5_70 C0 (lt_b rfl) rfl rfl dX5_spread_74 ?_
        refine a_istore_n (ls2 := [(3, _), (0, _), (1, _), (2, _), (4, _), (5, _)]) C0 dX5_spread_77 rfl (lt_b rfl) rfl ?_
        refine a_aload_n C0 1 dX5_spread_78 rfl rfl ?_
        refine g_X5_19 C0 (lt_b rfl) rfl rfl dX5_spread_79 ?_
        refine a_callV _ 0 C0 em_XT (c_X1_hearings l G wz.1 wz.2.1 (ad := fun k => ad (17 + k))) u_c_X1_hearings u_m_X5_172 u_im_X1_hearings u_se_X1_hearings u_in_X1 hy_X1_hearings rfl (lt_b rfl) rfl (hRk rfl) rfl rfl (le_b rfl) dX5_spread_82 (k_ro em_XT ?_)
        refine a_iload_n C0 3 dX5_spread_85 rfl rfl ?_
        refine a_icmp_le C0 92 dX5_spread_86 rfl (fun h86 => ?_) (fun h86 => ?_)
        · refine a_iinc (ls2 := [(5, _), (3, _), (0, _), (1, _), (2, _), (4, _)]) C0 5 1 dX5_spread_92 rfl rfl (lt_b rfl) rfl ?_
          refine a_goto C0 45 dX5_spread_95 rfl ?_
          refine AW.sub (ls2 := [(0, _), (1, _), (2, _), (3, _), (4, _), (5, _)]) [2, 3, 4, 1, 5, 0] rfl ?_
          exact ih (i + 1) _ _ _ _ (by omega) hlt (by rw [hxi, nI_1]) hc (by
            show _ = (drawsP (up2 N 0 10 (spS N nT (heaP (passP N nT) nT) i).1) nT 0 10, if (heaP (passP N nT) nT) < heaP (drawsP (up2 N 0 10 (spS N nT (heaP (passP N nT) nT) i).1) nT) nT then (spS N nT (heaP (passP N nT) nT) i).2 + 1 else (spS N nT (heaP (passP N nT) nT) i).2)
            rw [← hm]
            first
              | (have q : ¬ (heaP (passP N nT) nT) < heaP (drawsP (up2 N 0 10 a) nT) nT := Int32.not_lt.mpr h86
                 rw [if_neg q]
                 rfl)
              | (have q : (heaP (passP N nT) nT) < heaP (drawsP (up2 N 0 10 a) nT) nT := Int32.not_le.mp h86
                 rw [if_pos q]
                 rfl))
        · refine a_iinc (ls2 := [(4, _), (3, _), (0, _), (1, _), (2, _), (5, _)]) C0 4 1 dX5_spread_89 rfl rfl (lt_b rfl) rfl ?_
          refine a_iinc (ls2 := [(5, _), (4, _), (3, _), (0, _), (1, _), (2, _)]) C0 5 1 dX5_spread_92 rfl rfl (lt_b rfl) rfl ?_
          refine a_goto C0 45 dX5_spread_95 rfl ?_
          refine AW.sub (ls2 := [(0, _), (1, _), (2, _), (3, _), (4, _), (5, _)]) [3, 4, 5, 2, 1, 0] rfl ?_
          exact ih (i + 1) _ _ _ _ (by omega) hlt (by rw [hxi, nI_1]) hc (by
            show _ = (drawsP (up2 N 0 10 (spS N nT (heaP (passP N nT) nT) i).1) nT 0 10, if (heaP (passP N nT) nT) < heaP (drawsP (up2 N 0 10 (spS N nT (heaP (passP N nT) nT) i).1) nT) nT then (spS N nT (heaP (passP N nT) nT) i).2 + 1 else (spS N nT (heaP (passP N nT) nT) i).2)
            rw [← hm]
            first
              | (have q : ¬ (heaP (passP N nT) nT) < heaP (drawsP (up2 N 0 10 a) nT) nT := Int32.not_lt.mpr h86
                 rw [if_neg q]
                 rfl)
              | (have q : (heaP (passP N nT) nT) < heaP (drawsP (up2 N 0 10 a) nT) nT := Int32.not_le.mp h86
                 rw [if_pos q]
                 rfl))
  refine a_iload_n C0 1 dX5_spread_0 rfl rfl ?_
  refine a_iconst C0 1 dX5_spread_1 rfl ?_
  refine a_bipush C0 30 dX5_spread_2 rfl ?_
  refine a_callS _ 3 C0 EM.z (c_X5_isWithin l G) u_c_X5_isWithin u_m_X5_55 u_st_X5_isWithin u_in_X5 hy_X5_isWithin.2 (hRk rfl) rfl rfl (le_b rfl) dX5_spread_4 (k_ro EM.z ?_)
  refine a_if_neb C0 12 dX5_spread_7 rfl (fun h7 => ?_) (fun h7 => ?_)
  · refine a_aload_n C0 0 dX5_spread_12 rfl rfl ?_
    refine a_callV _ 0 C0 EM.refl (c_X5_startTrial l G rfl) u_c_X5_startTrial u_m_X5_181 u_im_X5_startTrial u_se_X5_startTrial u_in_X5 hy_X5_startTrial rfl (lt_b rfl) rfl (hRk rfl) rfl rfl (le_b rfl) dX5_spread_13 (k_vo ?_)
    refine a_aload_n C0 0 dX5_spread_16 rfl rfl ?_
    refine g_X5_19 C0 (lt_b rfl) rfl rfl dX5_spread_17 ?_
    refine a_callV _ 0 C0 em_XT (c_X1_passMinute l G w (ad := fun k => ad (17 + k))) u_c_X1_passMinute u_m_X5_159 u_im_X1_passMinute u_se_X1_passMinute u_in_X1 hy_X1_passMinute rfl (lt_b rfl) rfl (hRk rfl) rfl rfl (le_b rfl) dX5_spread_20 (k_vo ?_)
    refine a_aload_n C0 0 dX5_spread_23 rfl rfl ?_
    refine g_X5_19 C0 (lt_b rfl) rfl rfl dX5_spread_24 ?_
    refine a_callV _ 0 C0 em_XT (c_X1_hearings l G w.pass.1 w.pass.2.1 (ad := fun k => ad (17 + k))) u_c_X1_hearings u_m_X5_172 u_im_X1_hearings u_se_X1_hearings u_in_X1 hy_X1_hearings rfl (lt_b rfl) rfl (hRk rfl) rfl rfl (le_b rfl) dX5_spread_27 (k_ro em_XT ?_)
    refine a_istore_n (ls2 := [(2, _), (0, _), (1, _)]) C0 dX5_spread_30 rfl (lt_b rfl) rfl ?_
    refine a_aload_n C0 1 dX5_spread_31 rfl rfl ?_
    refine g_X5_10 C0 (lt_b rfl) rfl rfl dX5_spread_32 ?_
    refine g_X5_70 C0 (lt_b rfl) rfl rfl dX5_spread_35 ?_
    refine a_istore_n (ls2 := [(3, _), (2, _), (0, _), (1, _)]) C0 dX5_spread_38 rfl (lt_b rfl) rfl ?_
    refine a_iconst C0 0 dX5_spread_39 rfl ?_
    refine a_istore (ls2 := [(4, _), (3, _), (2, _), (0, _), (1, _)]) C0 dX5_spread_40 (lt_b rfl) rfl ?_
    refine a_iconst C0 0 dX5_spread_42 rfl ?_
    refine a_istore (ls2 := [(5, _), (4, _), (3, _), (2, _), (0, _), (1, _)]) C0 dX5_spread_43 (lt_b rfl) rfl ?_
    refine AW.sub (ls2 := [(0, _), (1, _), (2, _), (3, _), (4, _), (5, _)]) [4, 5, 3, 2, 1, 0] rfl ?_
    exact lp (ix y + 1) 0 _ _ _ _ (by omega) (Nat.zero_le _) rfl h7 rfl
  · refine a_iconst C0 (-1) dX5_spread_10 rfl ?_
    refine a_iret C0 hr dX5_spread_11 ?_
    exact tr_ (if_neg h7).symm
set_option maxRecDepth 100000 in
set_option maxHeartbeats 4000000 in
theorem c_X5_prove (l : Launch) (G : GE) {ad : Nat → Nat} {M : WM} {O : Nat → Int32} {N K T B R S H Z : WM} {x y : Int32} {nT : Nat} (w : WFP N nT) (hM : M = mkX O N K T B R S H Z)  : CT l G yX5_prove cX5_prove 5 (some .int) 4 [.ref (ad 0), .int x, .int y] 54 ad (shX G ad) M (PI (fun r u => r = (if (isTl N x ∧ (1 ≤ y ∧ y ≤ 10)) then y else -1) ∧ ∃ T2, u = (mkX (if (isTl N x ∧ (1 ≤ y ∧ y ≤ 10)) then (fun j => if j = 6 then y else O j) else O) N K T2 B (if (isTl N x ∧ (1 ≤ y ∧ y ≤ 10)) then prR R N (ix x) (ix y) else R) S H Z))) := by
  refine CT.of (own := RX5) rfl rfl (le_b rfl) fun p e s m args below meth c A C0 hr => ?_
  refine AW.lo (ls2 := [(0, _), (1, _), (2, _)]) rfl ?_
  subst hM
  have lp : ∀ (n : Nat) (i : Nat) (xi : Int32) (T1 R1 : WM), ix y - i < n → (i ≤ ix y) → (xi = nI i) → ((isTl N x ∧ (1 ≤ y ∧ y ≤ 10))) → (T1 = minsP i N (ix x)) → (R1 = prR R N (ix x) i) → AW p l e (rmk 4) s m args below meth c G A 54 ad (shX G ad) 5 0 0 (MQ below (CQ G 54 ad (shX G ad) A (PI (fun r u => r = (if (isTl N x ∧ (1 ≤ y ∧ y ≤ 10)) then y else -1) ∧ ∃ T2, u = (mkX (if (isTl N x ∧ (1 ≤ y ∧ y ≤ 10)) then (fun j => if j = 6 then y else O j) else O) N K T2 B (if (isTl N x ∧ (1 ≤ y ∧ y ≤ 10)) then prR R N (ix x) (ix y) else R) S H Z)))) args s 0 0 A) 26 [(0, .ref (ad 0)), (1, .int x), (2, .int y), (3, .int xi)] [] (mkX O N K T1 B R1 S H Z) := by
    intro n
    induction n with
    | zero =>
      intro i xi T1 R1 hn
      exact absurd hn (Nat.not_lt_zero _)
    | succ n ih =>
      intro i xi T1 R1 hn hi hxi hc hT hR
      have hv := (isTl_in w).mp hc.1
      have hx : IX x (ix x) 8 := IX.v (vp_le hv w.2.1)
      have ht : ix x < nT := vp_lt hv
      have w1 : WFP T1 nT := by
        rw [hT]
        exact w.mins ht i
      have hy10 : ix y ≤ 10 := by
        have := vp_lt (in_of (n := 10) (by decide) ⟨Int32.le_trans (by decide) hc.2.1, hc.2.2⟩)
        omega
      refine a_iload_n C0 3 dX5_prove_26 rfl rfl ?_
      refine a_iload_n C0 2 dX5_prove_27 rfl rfl ?_
      refine a_icmp_ge C0 76 dX5_prove_28 rfl (fun h28 => ?_) (fun h28 => ?_)
      · refine a_aload_n C0 0 dX5_prove_76 rfl rfl ?_
        refine a_iload_n C0 2 dX5_prove_77 rfl rfl ?_
        refine p_X5_81 C0 (lt_b rfl) rfl (lt_b rfl) rfl rfl dX5_prove_78 ?_
        refine AW.cg (M := (mkX (fun j => if j = 6 then y else O j) N K T1 B R1 S H Z)) mkX_Ou ?_
        refine a_iload_n C0 2 dX5_prove_81 rfl rfl ?_
        refine a_iret C0 hr dX5_prove_82 ?_
        have e : i = ix y := Nat.le_antisymm hi (i_geY hxi (Nat.lt_of_le_of_lt hi (ix_lt _)) h28)
        subst e
        exact ⟨_, rfl, (if_pos hc).symm, T1, by rw [if_pos hc, if_pos hc, hR]⟩
      · have hlt : i < ix y := i_ltY hxi (Nat.lt_of_le_of_lt hi (ix_lt _)) h28
        have hr10 : i < 10 := by omega
        have hri : IX xi i 10 := IX.eqn hxi hr10 (by decide)
        refine a_aload_n C0 0 dX5_prove_31 rfl rfl ?_
        refine g_X5_19 C0 (lt_b rfl) rfl rfl dX5_prove_32 ?_
        refine a_iload_n C0 1 dX5_prove_35 rfl rfl ?_
        refine a_callV _ 1 C0 em_XT (c_X1_passMinuteOf l G hx w1 ht (ad := fun k => ad (17 + k))) u_c_X1_passMinuteOf u_m_X5_190 u_im_X1_passMinuteOf u_se_X1_passMinuteOf u_in_X1 hy_X1_passMinuteOf rfl (lt_b rfl) rfl (hRk rfl) rfl rfl (le_b rfl) dX5_prove_36 (k_vo ?_)
        refine a_iconst C0 0 dX5_prove_39 rfl ?_
        refine a_istore (ls2 := [(4, _), (0, _), (1, _), (2, _), (3, _)]) C0 dX5_prove_40 (lt_b rfl) rfl ?_
        refine a_iload C0 0 dX5_prove_42 rfl ?_
        refine a_iconst C0 3 dX5_prove_44 rfl ?_
        refine a_icmp_ge C0 70 dX5_prove_45 rfl (fun h45 => ?_) (fun h45 => ?_)
        · exact absurd h45 (by decide)
        · refine a_aload_n C0 1 dX5_prove_48 rfl rfl ?_
          refine g_X5_31 C0 (lt_b rfl) rfl rfl dX5_prove_49 ?_
          refine a_iload_n C0 4 dX5_prove_52 rfl rfl ?_
          refine a_aald (t0 := 2) C0 i (28 + i) rfl rfl (lt_b rfl) rfl hri.1 hri.2 (if_pos hr10) dX5_prove_53 ?_
          refine a_iload C0 0 dX5_prove_54 rfl ?_
          refine a_aload_n C0 1 dX5_prove_56 rfl rfl ?_
          refine a_iload_n C0 2 dX5_prove_57 rfl rfl ?_
          refine a_iload C0 0 dX5_prove_58 rfl ?_
          refine a_callV _ 2 C0 EM.refl (c_X5_triedRowPart l G hx rfl) u_c_X5_triedRowPart u_m_X5_240 u_im_X5_triedRowPart u_se_X5_triedRowPart u_in_X5 hy_X5_triedRowPart rfl (lt_b rfl) rfl (hRk rfl) rfl rfl (le_b rfl) dX5_prove_60 (k_ro EM.refl ?_)
          refine a_iast C0 0 (by omega) (shX_ro hr10) (vq rfl) rfl dX5_prove_63 ?_
          rw [show (if (0 : Int32) = 0 then (minP T1 (ix x)) 6 (ix x) else if (0 : Int32) = 1 then (minP T1 (ix x)) 5 (ix x) else (minP T1 (ix x)) 7 (ix x)) = (minP T1 (ix x)) 6 (ix x) from rfl]
          refine AW.cg (M := (mkX O N K (minP T1 (ix x)) B (up2 R1 i 0 ((minP T1 (ix x)) 6 (ix x))) S H Z)) (fun c hc => mkX_Ru (q := i) (by omega) c hc) ?_
          refine a_iinc (ls2 := [(4, _), (0, _), (1, _), (2, _), (3, _)]) C0 0 1 dX5_prove_64 rfl rfl (lt_b rfl) rfl ?_
          refine a_goto C0 42 dX5_prove_67 rfl ?_
          refine a_iload C0 0 dX5_prove_42 rfl ?_
          refine a_iconst C0 3 dX5_prove_44 rfl ?_
          refine a_icmp_ge C0 70 dX5_prove_45 rfl (fun h45 => ?_) (fun h45 => ?_)
          · exact absurd h45 (by decide)
          · refine a_aload_n C0 1 dX5_prove_48 rfl rfl ?_
            refine g_X5_31 C0 (lt_b rfl) rfl rfl dX5_prove_49 ?_
            refine a_iload_n C0 4 dX5_prove_52 rfl rfl ?_
            refine a_aald (t0 := 2) C0 i (28 + i) rfl rfl (lt_b rfl) rfl hri.1 hri.2 (if_pos hr10) dX5_prove_53 ?_
            refine a_iload C0 0 dX5_prove_54 rfl ?_
            refine a_aload_n C0 1 dX5_prove_56 rfl rfl ?_
            refine a_iload_n C0 2 dX5_prove_57 rfl rfl ?_
            refine a_iload C0 0 dX5_prove_58 rfl ?_
            refine a_callV _ 2 C0 EM.refl (c_X5_triedRowPart l G hx rfl) u_c_X5_triedRowPart u_m_X5_240 u_im_X5_triedRowPart u_se_X5_triedRowPart u_in_X5 hy_X5_triedRowPart rfl (lt_b rfl) rfl (hRk rfl) rfl rfl (le_b rfl) dX5_prove_60 (k_ro EM.refl ?_)
            refine a_iast C0 1 (by omega) (shX_ro hr10) (vq rfl) rfl dX5_prove_63 ?_
            rw [show (if (0 + 1 : Int32) = 0 then (minP T1 (ix x)) 6 (ix x) else if (0 + 1 : Int32) = 1 then (minP T1 (ix x)) 5 (ix x) else (minP T1 (ix x)) 7 (ix x)) = (minP T1 (ix x)) 5 (ix x) from rfl]
            refine AW.cg (M := (mkX O N K (minP T1 (ix x)) B (up2 (up2 R1 i 0 ((minP T1 (ix x)) 6 (ix x))) i 1 ((minP T1 (ix x)) 5 (ix x))) S H Z)) (fun c hc => mkX_Ru (q := i) (by omega) c hc) ?_
            refine a_iinc (ls2 := [(4, _), (0, _), (1, _), (2, _), (3, _)]) C0 0 1 dX5_prove_64 rfl rfl (lt_b rfl) rfl ?_
            refine a_goto C0 42 dX5_prove_67 rfl ?_
            refine a_iload C0 0 dX5_prove_42 rfl ?_
            refine a_iconst C0 3 dX5_prove_44 rfl ?_
            refine a_icmp_ge C0 70 dX5_prove_45 rfl (fun h45 => ?_) (fun h45 => ?_)
            · exact absurd h45 (by decide)
            · refine a_aload_n C0 1 dX5_prove_48 rfl rfl ?_
              refine g_X5_31 C0 (lt_b rfl) rfl rfl dX5_prove_49 ?_
              refine a_iload_n C0 4 dX5_prove_52 rfl rfl ?_
              refine a_aald (t0 := 2) C0 i (28 + i) rfl rfl (lt_b rfl) rfl hri.1 hri.2 (if_pos hr10) dX5_prove_53 ?_
              refine a_iload C0 0 dX5_prove_54 rfl ?_
              refine a_aload_n C0 1 dX5_prove_56 rfl rfl ?_
              refine a_iload_n C0 2 dX5_prove_57 rfl rfl ?_
              refine a_iload C0 0 dX5_prove_58 rfl ?_
              refine a_callV _ 2 C0 EM.refl (c_X5_triedRowPart l G hx rfl) u_c_X5_triedRowPart u_m_X5_240 u_im_X5_triedRowPart u_se_X5_triedRowPart u_in_X5 hy_X5_triedRowPart rfl (lt_b rfl) rfl (hRk rfl) rfl rfl (le_b rfl) dX5_prove_60 (k_ro EM.refl ?_)
              refine a_iast C0 2 (by omega) (shX_ro hr10) (vq rfl) rfl dX5_prove_63 ?_
              rw [show (if (0 + 1 + 1 : Int32) = 0 then (minP T1 (ix x)) 6 (ix x) else if (0 + 1 + 1 : Int32) = 1 then (minP T1 (ix x)) 5 (ix x) else (minP T1 (ix x)) 7 (ix x)) = (minP T1 (ix x)) 7 (ix x) from rfl]
              refine AW.cg (M := (mkX O N K (minP T1 (ix x)) B (up2 (up2 (up2 R1 i 0 ((minP T1 (ix x)) 6 (ix x))) i 1 ((minP T1 (ix x)) 5 (ix x))) i 2 ((minP T1 (ix x)) 7 (ix x))) S H Z)) (fun c hc => mkX_Ru (q := i) (by omega) c hc) ?_
              refine a_iinc (ls2 := [(4, _), (0, _), (1, _), (2, _), (3, _)]) C0 0 1 dX5_prove_64 rfl rfl (lt_b rfl) rfl ?_
              refine a_goto C0 42 dX5_prove_67 rfl ?_
              refine a_iload C0 0 dX5_prove_42 rfl ?_
              refine a_iconst C0 3 dX5_prove_44 rfl ?_
              refine a_icmp_ge C0 70 dX5_prove_45 rfl (fun h45 => ?_) (fun h45 => ?_)
              · refine a_iinc (ls2 := [(3, _), (4, _), (0, _), (1, _), (2, _)]) C0 4 1 dX5_prove_70 rfl rfl (lt_b rfl) rfl ?_
                refine a_goto C0 26 dX5_prove_73 rfl ?_
                refine AW.sub (ls2 := [(0, _), (1, _), (2, _), (3, _)]) [2, 3, 4, 0] rfl ?_
                exact ih (i + 1) _ _ _ (by omega) hlt (by rw [hxi, nI_1]) hc (by rw [hT]; rfl) (by rw [hR, hT]; rfl)
              · exact absurd (by decide) h45
  refine a_aload_n C0 0 dX5_prove_0 rfl rfl ?_
  refine a_iload_n C0 1 dX5_prove_1 rfl rfl ?_
  refine a_callV _ 1 C0 EM.refl (c_X5_isTale l G rfl) u_c_X5_isTale u_m_X5_108 u_im_X5_isTale u_se_X5_isTale u_in_X5 hy_X5_isTale rfl (lt_b rfl) rfl (hRk rfl) rfl rfl (le_b rfl) dX5_prove_2 (k_ro EM.refl ?_)
  refine a_if_eqb C0 18 dX5_prove_5 rfl (fun h5 => ?_) (fun h5 => ?_)
  · refine a_iconst C0 (-1) dX5_prove_18 rfl ?_
    refine a_iret C0 hr dX5_prove_19 ?_
    have hc : ¬ (isTl N x ∧ (1 ≤ y ∧ y ≤ 10)) := fun q => by
      first
        | exact h5 q.1
        | exact h15 q.2
    exact ⟨_, rfl, (if_neg hc).symm, T, by rw [if_neg hc, if_neg hc]⟩
  · refine a_iload_n C0 2 dX5_prove_8 rfl rfl ?_
    refine a_iconst C0 1 dX5_prove_9 rfl ?_
    refine a_bipush C0 10 dX5_prove_10 rfl ?_
    refine a_callS _ 3 C0 EM.z (c_X5_isWithin l G) u_c_X5_isWithin u_m_X5_55 u_st_X5_isWithin u_in_X5 hy_X5_isWithin.2 (hRk rfl) rfl rfl (le_b rfl) dX5_prove_12 (k_ro EM.z ?_)
    refine a_if_neb C0 20 dX5_prove_15 rfl (fun h15 => ?_) (fun h15 => ?_)
    · refine a_aload_n C0 0 dX5_prove_20 rfl rfl ?_
      refine a_callV _ 0 C0 EM.refl (c_X5_startTrial l G rfl) u_c_X5_startTrial u_m_X5_181 u_im_X5_startTrial u_se_X5_startTrial u_in_X5 hy_X5_startTrial rfl (lt_b rfl) rfl (hRk rfl) rfl rfl (le_b rfl) dX5_prove_21 (k_vo ?_)
      refine a_iconst C0 0 dX5_prove_24 rfl ?_
      refine a_istore_n (ls2 := [(3, _), (0, _), (1, _), (2, _)]) C0 dX5_prove_25 rfl (lt_b rfl) rfl ?_
      refine AW.sub (ls2 := [(0, _), (1, _), (2, _), (3, _)]) [1, 2, 3, 0] rfl ?_
      exact lp (ix y + 1) 0 _ _ _ (by omega) (Nat.zero_le _) rfl ⟨h5, h15⟩ rfl rfl
    · refine a_iconst C0 (-1) dX5_prove_18 rfl ?_
      refine a_iret C0 hr dX5_prove_19 ?_
      have hc : ¬ (isTl N x ∧ (1 ≤ y ∧ y ≤ 10)) := fun q => by
        first
          | exact h5 q.1
          | exact h15 q.2
      exact ⟨_, rfl, (if_neg hc).symm, T, by rw [if_neg hc, if_neg hc]⟩
set_option maxRecDepth 100000 in
set_option maxHeartbeats 4000000 in
theorem c_X5_judge (l : Launch) (G : GE) {ad : Nat → Nat} {M : WM} {O : Nat → Int32} {N K T B R S H Z : WM} {x : Int32} {nT cn : Nat} (w : WFP N nT) (hcn : O 6 = nI cn) (hcn10 : cn ≤ 10) (hM : M = mkX O N K T B R S H Z)  : CT l G yX5_judge cX5_judge 4 (some .int) 4 [.ref (ad 0), .int x] 54 ad (shX G ad) M (PI (fun r u => r = (if isTl N x then jgS R (ix x) cn 0 N else -1) ∧ ∃ T2, u = mkX O N K T2 B R S H Z)) := by
  refine CT.of (own := RX5) rfl rfl (le_b rfl) fun p e s m args below meth c A C0 hr => ?_
  refine AW.lo (ls2 := [(0, _), (1, _)]) rfl ?_
  subst hM
  have lp : ∀ (n : Nat) (i : Nat) (xi : Int32) (T1 : WM), cn - i < n → (i ≤ cn) → (xi = nI i) → (isTl N x) → (WFP T1 nT) → (jgS R (ix x) (cn - i) i T1 = jgS R (ix x) cn 0 N) → AW p l e (rmk 4) s m args below meth c G A 54 ad (shX G ad) 4 0 0 (MQ below (CQ G 54 ad (shX G ad) A (PI (fun r u => r = (if isTl N x then jgS R (ix x) cn 0 N else -1) ∧ ∃ T2, u = mkX O N K T2 B R S H Z))) args s 0 0 A) 16 [(0, .ref (ad 0)), (1, .int x), (2, .int xi)] [] (mkX O N K T1 B R S H Z) := by
    intro n
    induction n with
    | zero =>
      intro i xi T1 hn
      exact absurd hn (Nat.not_lt_zero _)
    | succ n ih =>
      intro i xi T1 hn hi hxi hc w1 hm
      have hv := (isTl_in w).mp hc
      have hx : IX x (ix x) 8 := IX.v (vp_le hv w.2.1)
      have ht : ix x < nT := vp_lt hv
      refine a_iload_n C0 2 dX5_judge_16 rfl rfl ?_
      refine a_aload_n C0 0 dX5_judge_17 rfl rfl ?_
      refine g_X5_81 C0 (lt_b rfl) rfl rfl dX5_judge_18 ?_
      refine a_icmp_ge C0 72 dX5_judge_21 rfl (fun h21 => ?_) (fun h21 => ?_)
      · refine a_iconst C0 0 dX5_judge_72 rfl ?_
        refine a_iret C0 hr dX5_judge_73 ?_
        have e : i = cn := Nat.le_antisymm hi (i_ge hxi hcn (by omega) (by omega) h21)
        refine tr_ ?_
        rw [if_pos hc, ← hm, e, Nat.sub_self]
        rfl
      · have hlt : i < cn := i_lt hxi hcn (by omega) (by omega) h21
        have hr10 : i < 10 := by omega
        have hri : IX xi i 10 := IX.eqn hxi hr10 (by decide)
        have hro := fun T2 : WM => mkX_R (O := O) (N := N) (K := K) (T := T2) (B := B) (R := R) (S := S) (H := H) (Z := Z) (q := i) hr10
        refine a_aload_n C0 0 dX5_judge_24 rfl rfl ?_
        refine g_X5_19 C0 (lt_b rfl) rfl rfl dX5_judge_25 ?_
        refine a_iload_n C0 1 dX5_judge_28 rfl rfl ?_
        refine a_callV _ 1 C0 em_XT (c_X1_passMinuteOf l G hx w1 ht (ad := fun k => ad (17 + k))) u_c_X1_passMinuteOf u_m_X5_190 u_im_X1_passMinuteOf u_se_X1_passMinuteOf u_in_X1 hy_X1_passMinuteOf rfl (lt_b rfl) rfl (hRk rfl) rfl rfl (le_b rfl) dX5_judge_29 (k_vo ?_)
        refine a_iconst C0 0 dX5_judge_32 rfl ?_
        refine a_istore_n (ls2 := [(3, _), (0, _), (1, _), (2, _)]) C0 dX5_judge_33 rfl (lt_b rfl) rfl ?_
        refine a_iload_n C0 0 dX5_judge_34 rfl rfl ?_
        refine a_iconst C0 3 dX5_judge_35 rfl ?_
        refine a_icmp_ge C0 66 dX5_judge_36 rfl (fun h36 => ?_) (fun h36 => ?_)
        · exact absurd h36 (by decide)
        · refine a_aload_n C0 1 dX5_judge_39 rfl rfl ?_
          refine g_X5_31 C0 (lt_b rfl) rfl rfl dX5_judge_40 ?_
          refine a_iload_n C0 3 dX5_judge_43 rfl rfl ?_
          refine a_aald (t0 := 2) C0 i (28 + i) rfl rfl (lt_b rfl) rfl hri.1 hri.2 (if_pos hr10) dX5_judge_44 ?_
          refine a_iload_n C0 0 dX5_judge_45 rfl rfl ?_
          refine a_iald C0 0 (by omega) (shX_ro hr10 _) (vq rfl) rfl dX5_judge_46 ?_
          refine a_aload_n C0 1 dX5_judge_47 rfl rfl ?_
          refine a_iload_n C0 2 dX5_judge_48 rfl rfl ?_
          refine a_iload_n C0 0 dX5_judge_49 rfl rfl ?_
          refine a_callV _ 2 C0 EM.refl (c_X5_triedRowPart l G hx rfl) u_c_X5_triedRowPart u_m_X5_240 u_im_X5_triedRowPart u_se_X5_triedRowPart u_in_X5 hy_X5_triedRowPart rfl (lt_b rfl) rfl (hRk rfl) rfl rfl (le_b rfl) dX5_judge_50 (k_ro EM.refl ?_)
          refine a_icmp_eq C0 60 dX5_judge_53 rfl (fun h53 => ?_) (fun h53 => ?_)
          · have h53_0 : R i 0 = (minP T1 (ix x)) 6 (ix x) := by
              have q := h53
              rw [hro] at q
              exact q
            refine a_iinc (ls2 := [(3, _), (0, _), (1, _), (2, _)]) C0 0 1 dX5_judge_60 rfl rfl (lt_b rfl) rfl ?_
            refine a_goto C0 34 dX5_judge_63 rfl ?_
            refine a_iload_n C0 0 dX5_judge_34 rfl rfl ?_
            refine a_iconst C0 3 dX5_judge_35 rfl ?_
            refine a_icmp_ge C0 66 dX5_judge_36 rfl (fun h36 => ?_) (fun h36 => ?_)
            · exact absurd h36 (by decide)
            · refine a_aload_n C0 1 dX5_judge_39 rfl rfl ?_
              refine g_X5_31 C0 (lt_b rfl) rfl rfl dX5_judge_40 ?_
              refine a_iload_n C0 3 dX5_judge_43 rfl rfl ?_
              refine a_aald (t0 := 2) C0 i (28 + i) rfl rfl (lt_b rfl) rfl hri.1 hri.2 (if_pos hr10) dX5_judge_44 ?_
              refine a_iload_n C0 0 dX5_judge_45 rfl rfl ?_
              refine a_iald C0 1 (by omega) (shX_ro hr10 _) (vq rfl) rfl dX5_judge_46 ?_
              refine a_aload_n C0 1 dX5_judge_47 rfl rfl ?_
              refine a_iload_n C0 2 dX5_judge_48 rfl rfl ?_
              refine a_iload_n C0 0 dX5_judge_49 rfl rfl ?_
              refine a_callV _ 2 C0 EM.refl (c_X5_triedRowPart l G hx rfl) u_c_X5_triedRowPart u_m_X5_240 u_im_X5_triedRowPart u_se_X5_triedRowPart u_in_X5 hy_X5_triedRowPart rfl (lt_b rfl) rfl (hRk rfl) rfl rfl (le_b rfl) dX5_judge_50 (k_ro EM.refl ?_)
              refine a_icmp_eq C0 60 dX5_judge_53 rfl (fun h53 => ?_) (fun h53 => ?_)
              · have h53_1 : R i 1 = (minP T1 (ix x)) 5 (ix x) := by
                  have q := h53
                  rw [hro] at q
                  exact q
                refine a_iinc (ls2 := [(3, _), (0, _), (1, _), (2, _)]) C0 0 1 dX5_judge_60 rfl rfl (lt_b rfl) rfl ?_
                refine a_goto C0 34 dX5_judge_63 rfl ?_
                refine a_iload_n C0 0 dX5_judge_34 rfl rfl ?_
                refine a_iconst C0 3 dX5_judge_35 rfl ?_
                refine a_icmp_ge C0 66 dX5_judge_36 rfl (fun h36 => ?_) (fun h36 => ?_)
                · exact absurd h36 (by decide)
                · refine a_aload_n C0 1 dX5_judge_39 rfl rfl ?_
                  refine g_X5_31 C0 (lt_b rfl) rfl rfl dX5_judge_40 ?_
                  refine a_iload_n C0 3 dX5_judge_43 rfl rfl ?_
                  refine a_aald (t0 := 2) C0 i (28 + i) rfl rfl (lt_b rfl) rfl hri.1 hri.2 (if_pos hr10) dX5_judge_44 ?_
                  refine a_iload_n C0 0 dX5_judge_45 rfl rfl ?_
                  refine a_iald C0 2 (by omega) (shX_ro hr10 _) (vq rfl) rfl dX5_judge_46 ?_
                  refine a_aload_n C0 1 dX5_judge_47 rfl rfl ?_
                  refine a_iload_n C0 2 dX5_judge_48 rfl rfl ?_
                  refine a_iload_n C0 0 dX5_judge_49 rfl rfl ?_
                  refine a_callV _ 2 C0 EM.refl (c_X5_triedRowPart l G hx rfl) u_c_X5_triedRowPart u_m_X5_240 u_im_X5_triedRowPart u_se_X5_triedRowPart u_in_X5 hy_X5_triedRowPart rfl (lt_b rfl) rfl (hRk rfl) rfl rfl (le_b rfl) dX5_judge_50 (k_ro EM.refl ?_)
                  refine a_icmp_eq C0 60 dX5_judge_53 rfl (fun h53 => ?_) (fun h53 => ?_)
                  · have h53_2 : R i 2 = (minP T1 (ix x)) 7 (ix x) := by
                      have q := h53
                      rw [hro] at q
                      exact q
                    refine a_iinc (ls2 := [(3, _), (0, _), (1, _), (2, _)]) C0 0 1 dX5_judge_60 rfl rfl (lt_b rfl) rfl ?_
                    refine a_goto C0 34 dX5_judge_63 rfl ?_
                    refine a_iload_n C0 0 dX5_judge_34 rfl rfl ?_
                    refine a_iconst C0 3 dX5_judge_35 rfl ?_
                    skip
                    refine a_icmp_ge C0 66 dX5_judge_36 rfl (fun h36 => ?_) (fun h36 => ?_)
                    · refine a_iinc (ls2 := [(2, _), (3, _), (0, _), (1, _)]) C0 3 1 dX5_judge_66 rfl rfl (lt_b rfl) rfl ?_
                      refine a_goto C0 16 dX5_judge_69 rfl ?_
                      refine AW.sub (ls2 := [(0, _), (1, _), (2, _)]) [2, 3, 0] rfl ?_
                      exact ih (i + 1) _ _ (by omega) hlt (by rw [hxi, nI_1]) hc (w1.min ht) (by
                        rw [← hm, show cn - i = (cn - (i + 1)) + 1 by omega]
                        exact (if_pos ⟨h53_0, h53_1, h53_2⟩).symm)
                    · exact absurd (by decide) h36
                  · refine a_iload_n C0 3 dX5_judge_56 rfl rfl ?_
                    refine a_iconst C0 1 dX5_judge_57 rfl ?_
                    refine a_iadd C0 dX5_judge_58 ?_
                    refine a_iret C0 hr dX5_judge_59 ?_
                    have q := h53
                    rw [hro] at q
                    refine tr_ ?_
                    rw [if_pos hc, ← hm, show cn - i = (cn - (i + 1)) + 1 by omega, hxi]
                    refine (if_neg fun z => q ?_).symm
                    first
                      | exact z.1
                      | exact z.2.1
                      | exact z.2.2
              · refine a_iload_n C0 3 dX5_judge_56 rfl rfl ?_
                refine a_iconst C0 1 dX5_judge_57 rfl ?_
                refine a_iadd C0 dX5_judge_58 ?_
                refine a_iret C0 hr dX5_judge_59 ?_
                have q := h53
                rw [hro] at q
                refine tr_ ?_
                rw [if_pos hc, ← hm, show cn - i = (cn - (i + 1)) + 1 by omega, hxi]
                refine (if_neg fun z => q ?_).symm
                first
                  | exact z.1
                  | exact z.2.1
                  | exact z.2.2
          · refine a_iload_n C0 3 dX5_judge_56 rfl rfl ?_
            refine a_iconst C0 1 dX5_judge_57 rfl ?_
            refine a_iadd C0 dX5_judge_58 ?_
            refine a_iret C0 hr dX5_judge_59 ?_
            have q := h53
            rw [hro] at q
            refine tr_ ?_
            rw [if_pos hc, ← hm, show cn - i = (cn - (i + 1)) + 1 by omega, hxi]
            refine (if_neg fun z => q ?_).symm
            first
              | exact z.1
              | exact z.2.1
              | exact z.2.2
  refine a_aload_n C0 0 dX5_judge_0 rfl rfl ?_
  refine a_iload_n C0 1 dX5_judge_1 rfl rfl ?_
  refine a_callV _ 1 C0 EM.refl (c_X5_isTale l G rfl) u_c_X5_isTale u_m_X5_108 u_im_X5_isTale u_se_X5_isTale u_in_X5 hy_X5_isTale rfl (lt_b rfl) rfl (hRk rfl) rfl rfl (le_b rfl) dX5_judge_2 (k_ro EM.refl ?_)
  refine a_if_neb C0 10 dX5_judge_5 rfl (fun h5 => ?_) (fun h5 => ?_)
  · refine a_aload_n C0 0 dX5_judge_10 rfl rfl ?_
    refine a_callV _ 0 C0 EM.refl (c_X5_startTrial l G rfl) u_c_X5_startTrial u_m_X5_181 u_im_X5_startTrial u_se_X5_startTrial u_in_X5 hy_X5_startTrial rfl (lt_b rfl) rfl (hRk rfl) rfl rfl (le_b rfl) dX5_judge_11 (k_vo ?_)
    refine a_iconst C0 0 dX5_judge_14 rfl ?_
    refine a_istore_n (ls2 := [(2, _), (0, _), (1, _)]) C0 dX5_judge_15 rfl (lt_b rfl) rfl ?_
    refine AW.sub (ls2 := [(0, _), (1, _), (2, _)]) [1, 2, 0] rfl ?_
    exact lp (cn + 1) 0 _ _ (by omega) (Nat.zero_le _) rfl h5 w rfl
  · refine a_iconst C0 (-1) dX5_judge_8 rfl ?_
    refine a_iret C0 hr dX5_judge_9 ?_
    exact tr_ (if_neg h5).symm
set_option maxRecDepth 100000 in
set_option maxHeartbeats 4000000 in
theorem c_X5_row (l : Launch) (G : GE) {ad : Nat → Nat} {M : WM} {O : Nat → Int32} {N K T B R S H Z : WM} {v y : Int32} {cn : Nat} (hcn : O 6 = nI cn) (hcn10 : cn ≤ 10) (hM : M = mkX O N K T B R S H Z)  : CT l G yX5_row cX5_row 3 (some .int) 2 [.ref (ad 0), .int v, .int y] 54 ad (shX G ad) M (PI (fun r u => r = (if isRw O v y then R (ix v) (ix y) else -9) ∧ u = M)) := by
  refine CT.of (own := RX5) rfl rfl (le_b rfl) fun p e s m args below meth c A C0 hr => ?_
  refine AW.lo (ls2 := [(0, _), (1, _), (2, _)]) rfl ?_
  subst hM
  refine a_aload_n C0 0 dX5_row_0 rfl rfl ?_
  refine a_iload_n C0 1 dX5_row_1 rfl rfl ?_
  refine a_iload_n C0 2 dX5_row_2 rfl rfl ?_
  refine a_callV _ 2 C0 EM.refl (c_X5_isInRows l G rfl) u_c_X5_isInRows u_m_X5_243 u_im_X5_isInRows u_se_X5_isInRows u_in_X5 hy_X5_isInRows rfl (lt_b rfl) rfl (hRk rfl) rfl rfl (le_b rfl) dX5_row_3 (k_ro EM.refl ?_)
  refine a_if_eqb C0 20 dX5_row_6 rfl (fun h6 => ?_) (fun h6 => ?_)
  · refine a_bipush C0 (-9) dX5_row_20 rfl ?_
    refine a_iret C0 hr dX5_row_22 ?_
    first
      | exact rt_ (if_neg h6).symm
      | exact rt_ (by rw [if_pos h6, hro])
  · have hvi := (rng_N hcn (by omega)).mp h6.1
    have hv10 := vp_le hvi hcn10
    have hr10 : ix v < 10 := vp_lt hv10
    have hri : IX v (ix v) 10 := IX.v hv10
    have hy3 : IX y (ix y) 3 := IX.v (in_of (n := 2) (by decide) h6.2)
    have hro := mkX_R (O := O) (N := N) (K := K) (T := T) (B := B) (R := R) (S := S) (H := H) (Z := Z) (q := ix v) hr10
    refine a_aload_n C0 0 dX5_row_9 rfl rfl ?_
    refine g_X5_31 C0 (lt_b rfl) rfl rfl dX5_row_10 ?_
    refine a_iload_n C0 1 dX5_row_13 rfl rfl ?_
    refine a_aald (t0 := 2) C0 (ix v) (28 + (ix v)) rfl rfl (lt_b rfl) rfl hri.1 hri.2 (if_pos hr10) dX5_row_14 ?_
    refine a_iload_n C0 2 dX5_row_15 rfl rfl ?_
    refine a_iald C0 _ (by omega) (shX_ro hr10 _) hy3.1 hy3.2 dX5_row_16 ?_
    refine a_goto C0 22 dX5_row_17 rfl ?_
    refine a_iret C0 hr dX5_row_22 ?_
    first
      | exact rt_ (if_neg h6).symm
      | exact rt_ (by rw [if_pos h6, hro])
set_option maxRecDepth 100000 in
set_option maxHeartbeats 4000000 in
theorem c_X5_alterRow (l : Launch) (G : GE) {ad : Nat → Nat} {M : WM} {O : Nat → Int32} {N K T B R S H Z : WM} {v y x : Int32} {cn : Nat} (hcn : O 6 = nI cn) (hcn10 : cn ≤ 10) (hM : M = mkX O N K T B R S H Z)  : CT l G yX5_alterRow cX5_alterRow 5 (some .int) 2 [.ref (ad 0), .int v, .int y, .int x] 54 ad (shX G ad) M (PI (fun r u => r = (if isRw O v y then R (ix v) (ix y) else -9) ∧ u = (mkX O N K T B (if isRw O v y then up2 R (ix v) (ix y) x else R) S H Z))) := by
  refine CT.of (own := RX5) rfl rfl (le_b rfl) fun p e s m args below meth c A C0 hr => ?_
  refine AW.lo (ls2 := [(0, _), (1, _), (2, _), (3, _)]) rfl ?_
  subst hM
  refine a_aload_n C0 0 dX5_alterRow_0 rfl rfl ?_
  refine a_iload_n C0 1 dX5_alterRow_1 rfl rfl ?_
  refine a_iload_n C0 2 dX5_alterRow_2 rfl rfl ?_
  refine a_callV _ 2 C0 EM.refl (c_X5_isInRows l G rfl) u_c_X5_isInRows u_m_X5_243 u_im_X5_isInRows u_se_X5_isInRows u_in_X5 hy_X5_isInRows rfl (lt_b rfl) rfl (hRk rfl) rfl rfl (le_b rfl) dX5_alterRow_3 (k_ro EM.refl ?_)
  refine a_if_neb C0 12 dX5_alterRow_6 rfl (fun h6 => ?_) (fun h6 => ?_)
  · have hvi := (rng_N hcn (by omega)).mp h6.1
    have hv10 := vp_le hvi hcn10
    have hr10 : ix v < 10 := vp_lt hv10
    have hri : IX v (ix v) 10 := IX.v hv10
    have hy3 : IX y (ix y) 3 := IX.v (in_of (n := 2) (by decide) h6.2)
    have hro := mkX_R (O := O) (N := N) (K := K) (T := T) (B := B) (R := R) (S := S) (H := H) (Z := Z) (q := ix v) hr10
    refine a_aload_n C0 0 dX5_alterRow_12 rfl rfl ?_
    refine g_X5_31 C0 (lt_b rfl) rfl rfl dX5_alterRow_13 ?_
    refine a_iload_n C0 1 dX5_alterRow_16 rfl rfl ?_
    refine a_aald (t0 := 2) C0 (ix v) (28 + (ix v)) rfl rfl (lt_b rfl) rfl hri.1 hri.2 (if_pos hr10) dX5_alterRow_17 ?_
    refine a_iload_n C0 2 dX5_alterRow_18 rfl rfl ?_
    refine a_iald C0 _ (by omega) (shX_ro hr10 _) hy3.1 hy3.2 dX5_alterRow_19 ?_
    refine a_istore (ls2 := [(4, _), (0, _), (1, _), (2, _), (3, _)]) C0 dX5_alterRow_20 (lt_b rfl) rfl ?_
    refine a_aload_n C0 1 dX5_alterRow_22 rfl rfl ?_
    refine g_X5_31 C0 (lt_b rfl) rfl rfl dX5_alterRow_23 ?_
    refine a_iload_n C0 2 dX5_alterRow_26 rfl rfl ?_
    refine a_aald (t0 := 2) C0 (ix v) (28 + (ix v)) rfl rfl (lt_b rfl) rfl hri.1 hri.2 (if_pos hr10) dX5_alterRow_27 ?_
    refine a_iload_n C0 3 dX5_alterRow_28 rfl rfl ?_
    refine a_iload_n C0 4 dX5_alterRow_29 rfl rfl ?_
    refine a_iast C0 _ (by omega) (shX_ro hr10) hy3.1 hy3.2 dX5_alterRow_30 ?_
    refine AW.cg (M := (mkX O N K T B (up2 R (ix v) (ix y) x) S H Z)) (fun c hc => mkX_Ru (q := ix v) hr10 c hc) ?_
    refine a_iload C0 0 dX5_alterRow_31 rfl ?_
    refine a_iret C0 hr dX5_alterRow_33 ?_
    exact rd_ (by rw [if_pos h6, hro]) (by rw [if_pos h6])
  · refine a_bipush C0 (-9) dX5_alterRow_9 rfl ?_
    refine a_iret C0 hr dX5_alterRow_11 ?_
    exact rd_ (if_neg h6).symm (by rw [if_neg h6])
def byT (v : Int64) (k : Nat) : Int32 := (v.toUInt64 >>> ((8 * nI k : Int32).toInt64.toUInt64 &&& Int64.toUInt64 63)).toInt64.toInt32.toInt8.toInt32
def feeB (B : WM) (n : Nat) (v : Int64) : Nat → WM
  | 0 => B
  | k + 1 => appB (feeB B n v k) (n + k) (byT v k)
theorem fee_n {B : WM} {n : Nat} {v : Int64} (h : B 0 1 = nI n) : ∀ k, feeB B n v k 0 1 = nI (n + k)
  | 0 => h
  | k + 1 => by
    show feeB B n v k 0 1 + 1 = _
    rw [fee_n h k, nI_1]
    rfl
def feeR (B : WM) (y : Int32) : Int32 := if (1 ≤ y ∧ y ≤ 8) then (if B 0 1 + y ≤ 200 then B 0 1 + y else -2) else -1
def feeW (B : WM) (n : Nat) (v : Int64) (y : Int32) : WM := if (1 ≤ y ∧ y ≤ 8) then (if B 0 1 + y ≤ 200 then feeB B n v (ix y) else B) else B

set_option maxRecDepth 100000 in
set_option maxHeartbeats 4000000 in
theorem c_X5_feed (l : Launch) (G : GE) {ad : Nat → Nat} {M : WM} {O : Nat → Int32} {N K T B R S H Z : WM} {v : Int64} {y : Int32} {bn : Nat} (hb : B 0 1 = nI bn) (hb200 : bn ≤ 200) (hM : M = mkX O N K T B R S H Z)  : CT l G yX5_feed cX5_feed 5 (some .int) 1 [.ref (ad 0), .long v, .int y] 54 ad (shX G ad) M (PI (fun r u => r = feeR B y ∧ u = (mkX O N K T (feeW B bn v y) R S H Z))) := by
  refine CT.of (own := RX5) rfl rfl (le_b rfl) fun p e s m args below meth c A C0 hr => ?_
  refine AW.lo (ls2 := [(0, _), (1, _), (3, _)]) rfl ?_
  subst hM
  have lp : ∀ (n : Nat) (i : Nat) (xi : Int32) (B1 : WM), ix y - i < n → (i ≤ ix y) → (xi = nI i) → ((1 ≤ y ∧ y ≤ 8)) → (B 0 1 + y ≤ 200) → (B1 = feeB B bn v i) → AW p l e (rmk 1) s m args below meth c G A 54 ad (shX G ad) 5 0 0 (MQ below (CQ G 54 ad (shX G ad) A (PI (fun r u => r = feeR B y ∧ u = (mkX O N K T (feeW B bn v y) R S H Z)))) args s 0 0 A) 33 [(0, .ref (ad 0)), (1, .long v), (3, .int y), (4, .int xi)] [] (mkX O N K T B1 R S H Z) := by
    intro n
    induction n with
    | zero =>
      intro i xi B1 hn
      exact absurd hn (Nat.not_lt_zero _)
    | succ n ih =>
      intro i xi B1 hn hi hxi hc hr2 hm
      have ey : y = nI (ix y) := (IX.v (in_of (n := 8) (by decide) ⟨Int32.le_trans (by decide) hc.1, hc.2⟩)).eq (by decide)
      have hy8 : ix y ≤ 8 := by
        have := vp_lt (in_of (n := 8) (by decide) ⟨Int32.le_trans (by decide) hc.1, hc.2⟩)
        omega
      have hle : bn + ix y ≤ 200 := by
        have q := hr2
        rw [hb, ey, nI_add] at q
        exact leN (b := 200) q (by omega) (by decide)
      have eb1 : B1 0 1 = nI (bn + i) := by
        rw [hm]
        exact fee_n hb i
      refine a_iload C0 3 dX5_feed_33 rfl ?_
      refine a_iload_n C0 2 dX5_feed_35 rfl rfl ?_
      refine a_icmp_ge C0 61 dX5_feed_36 rfl (fun h36 => ?_) (fun h36 => ?_)
      · refine a_aload_n C0 0 dX5_feed_61 rfl rfl ?_
        refine g_X5_25 C0 (lt_b rfl) rfl rfl dX5_feed_62 ?_
        refine g_X5_59 C0 (lt_b rfl) rfl rfl dX5_feed_65 ?_
        refine a_iret C0 hr dX5_feed_68 ?_
        have e : i = ix y := Nat.le_antisymm hi (i_geY hxi (Nat.lt_of_le_of_lt hi (ix_lt _)) h36)
        subst e
        exact rd_ (by unfold feeR; rw [if_pos hc, if_pos hr2]; show B1 0 1 = _; rw [eb1, hb, ← nI_add, ← ey]) (by unfold feeW; rw [if_pos hc, if_pos hr2, hm])
      · have hlt : i < ix y := i_ltY hxi (Nat.lt_of_le_of_lt hi (ix_lt _)) h36
        have hxb : IX (B1 0 1) (bn + i) 200 := IX.eqn eb1 (by omega) (by decide)
        refine a_aload_n C0 0 dX5_feed_39 rfl rfl ?_
        refine g_X5_25 C0 (lt_b rfl) rfl rfl dX5_feed_40 ?_
        refine a_lload_n C0 1 dX5_feed_43 rfl rfl ?_
        refine a_bipush C0 8 dX5_feed_44 rfl ?_
        refine a_iload C0 3 dX5_feed_46 rfl ?_
        refine a_imul C0 dX5_feed_48 ?_
        refine a_lushr C0 dX5_feed_49 ?_
        refine a_l2i C0 dX5_feed_50 ?_
        refine a_i2b C0 dX5_feed_51 ?_
        refine a_callV _ 1 C0 em_XB (c_X4_append l G hxb (ad := fun k => ad (25 + k))) u_c_X4_append u_m_X5_63 u_im_X4_append u_se_X4_append u_in_X4 hy_X4_append rfl (lt_b rfl) rfl (hRk rfl) rfl rfl (le_b rfl) dX5_feed_52 (k_vo ?_)
        refine a_iinc (ls2 := [(4, _), (0, _), (1, _), (3, _)]) C0 3 1 dX5_feed_55 rfl rfl (lt_b rfl) rfl ?_
        refine a_goto C0 33 dX5_feed_58 rfl ?_
        refine AW.sub (ls2 := [(0, _), (1, _), (3, _), (4, _)]) [1, 2, 3, 0] rfl ?_
        exact ih (i + 1) _ _ (by omega) hlt (by rw [hxi, nI_1]) hc hr2 (by rw [hm, hxi]; rfl)
  refine a_iload_n C0 2 dX5_feed_0 rfl rfl ?_
  refine a_iconst C0 1 dX5_feed_1 rfl ?_
  refine a_bipush C0 8 dX5_feed_2 rfl ?_
  refine a_callS _ 3 C0 EM.z (c_X5_isWithin l G) u_c_X5_isWithin u_m_X5_55 u_st_X5_isWithin u_in_X5 hy_X5_isWithin.2 (hRk rfl) rfl rfl (le_b rfl) dX5_feed_4 (k_ro EM.z ?_)
  refine a_if_neb C0 12 dX5_feed_7 rfl (fun h7 => ?_) (fun h7 => ?_)
  · refine a_aload_n C0 0 dX5_feed_12 rfl rfl ?_
    refine g_X5_25 C0 (lt_b rfl) rfl rfl dX5_feed_13 ?_
    refine g_X5_59 C0 (lt_b rfl) rfl rfl dX5_feed_16 ?_
    refine a_iload_n C0 2 dX5_feed_19 rfl rfl ?_
    refine a_iadd C0 dX5_feed_20 ?_
    refine a_sipush C0 200 dX5_feed_21 rfl ?_
    refine a_icmp_le C0 30 dX5_feed_24 rfl (fun h24 => ?_) (fun h24 => ?_)
    · refine a_iconst C0 0 dX5_feed_30 rfl ?_
      refine a_istore (ls2 := [(4, _), (0, _), (1, _), (3, _)]) C0 dX5_feed_31 (lt_b rfl) rfl ?_
      refine AW.sub (ls2 := [(0, _), (1, _), (3, _), (4, _)]) [1, 2, 3, 0] rfl ?_
      exact lp (ix y + 1) 0 _ _ (by omega) (Nat.zero_le _) rfl h7 h24 rfl
    · refine a_bipush C0 (-2) dX5_feed_27 rfl ?_
      refine a_iret C0 hr dX5_feed_29 ?_
      have h24 : ¬ B 0 1 + y ≤ 200 := h24
      exact rd_ (by unfold feeR; rw [if_pos h7, if_neg h24]) (by unfold feeW; rw [if_pos h7, if_neg h24])
  · refine a_iconst C0 (-1) dX5_feed_10 rfl ?_
    refine a_iret C0 hr dX5_feed_11 ?_
    exact rd_ (by unfold feeR; rw [if_neg h7]) (by unfold feeW; rw [if_neg h7])
theorem TC.first {P : WM} (z : Int32) : TC (up2 (firstP P) 0 10 z) := ⟨0, by decide, rfl⟩

set_option maxRecDepth 100000 in
set_option maxHeartbeats 4000000 in
theorem c_X5_parish (l : Launch) (G : GE) {ad : Nat → Nat} {M : WM} {O : Nat → Int32} {N K T B R S H Z : WM} {bn : Nat} (hb : B 0 1 = nI bn) (hb200 : bn ≤ 200) (hM : M = mkX O N K T B R S H Z)  : CT l G yX5_parish cX5_parish 2 (some .int) 9 [.ref (ad 0)] 54 ad (shX G ad) M (PI (fun r u => r = (if (rdI (B 1) bn (bn + 1) (up2 (firstP T) 0 10 (N 0 10)) (tk (B 1) bn 0)).1 < 0 then (rdI (B 1) bn (bn + 1) (up2 (firstP T) 0 10 (N 0 10)) (tk (B 1) bn 0)).2 0 8 else -100 - (rdI (B 1) bn (bn + 1) (up2 (firstP T) 0 10 (N 0 10)) (tk (B 1) bn 0)).1) ∧ ∃ B2, B2 0 1 = 0 ∧ B2 1 = B 1 ∧ u = (mkX (if (rdI (B 1) bn (bn + 1) (up2 (firstP T) 0 10 (N 0 10)) (tk (B 1) bn 0)).1 < 0 then (fun j => if j = 6 then 0 else O j) else O) (if (rdI (B 1) bn (bn + 1) (up2 (firstP T) 0 10 (N 0 10)) (tk (B 1) bn 0)).1 < 0 then (rdI (B 1) bn (bn + 1) (up2 (firstP T) 0 10 (N 0 10)) (tk (B 1) bn 0)).2 else N) K (rdI (B 1) bn (bn + 1) (up2 (firstP T) 0 10 (N 0 10)) (tk (B 1) bn 0)).2 B2 R S H Z))) := by
  refine CT.of (own := RX5) rfl rfl (le_b rfl) fun p e s m args below meth c A C0 hr => ?_
  refine AW.lo (ls2 := [(0, _)]) rfl ?_
  subst hM
  refine a_aload_n C0 0 dX5_parish_0 rfl rfl ?_
  refine g_X5_19 C0 (lt_b rfl) rfl rfl dX5_parish_1 ?_
  refine a_callV _ 0 C0 em_XT (c_X1_makeFirst l G (ad := fun k => ad (17 + k))) u_c_X1_makeFirst u_m_X5_67 u_im_X1_makeFirst u_se_X1_makeFirst u_in_X1 hy_X1_makeFirst rfl (lt_b rfl) rfl (hRk rfl) rfl rfl (le_b rfl) dX5_parish_4 (k_vo ?_)
  refine a_aload_n C0 0 dX5_parish_7 rfl rfl ?_
  refine g_X5_19 C0 (lt_b rfl) rfl rfl dX5_parish_8 ?_
  refine a_aload_n C0 0 dX5_parish_11 rfl rfl ?_
  refine g_X5_10 C0 (lt_b rfl) rfl rfl dX5_parish_12 ?_
  refine g_X5_70 C0 (lt_b rfl) rfl rfl dX5_parish_15 ?_
  refine p_X5_70 C0 (lt_b rfl) rfl (lt_b rfl) rfl rfl dX5_parish_18 ?_
  refine AW.cg (M := (mkX O N K (up2 (firstP T) 0 10 (N 0 10)) B R S H Z)) (fun c hc => mkX_Tu (q := 0) (by decide) c hc) ?_
  refine a_aload_n C0 0 dX5_parish_21 rfl rfl ?_
  refine g_X5_25 C0 (lt_b rfl) rfl rfl dX5_parish_22 ?_
  refine a_aload_n C0 0 dX5_parish_25 rfl rfl ?_
  refine g_X5_19 C0 (lt_b rfl) rfl rfl dX5_parish_26 ?_
  refine a_callV _ 1 C0 em_XTB (c_X4_readInto l G rfl hb hb200 rfl (TC.first _) (ad := fun k => ad (17 + k))) u_c_X4_readInto u_m_X5_73 u_im_X4_readInto u_se_X4_readInto u_in_X4 hy_X4_readInto rfl (lt_b rfl) rfl (hRk rfl) rfl rfl (le_b rfl) dX5_parish_29 (k_i fun r29 u29 q29 => ?_)
  obtain ⟨rfl, B2, rfl, eb, eb1⟩ := q29
  refine AW.cg (M := (mkX O N K (rdI (B 1) bn (bn + 1) (up2 (firstP T) 0 10 (N 0 10)) (tk (B 1) bn 0)).2 B2 R S H Z)) mkX_TB ?_
  refine a_istore_n (ls2 := [(1, _), (0, _)]) C0 dX5_parish_32 rfl (lt_b rfl) rfl ?_
  refine a_aload_n C0 1 dX5_parish_33 rfl rfl ?_
  refine g_X5_25 C0 (lt_b rfl) rfl rfl dX5_parish_34 ?_
  refine a_iconst C0 0 dX5_parish_37 rfl ?_
  refine p_X5_59 C0 (lt_b rfl) rfl (lt_b rfl) rfl rfl dX5_parish_38 ?_
  refine AW.cg (M := (mkX O N K (rdI (B 1) bn (bn + 1) (up2 (firstP T) 0 10 (N 0 10)) (tk (B 1) bn 0)).2 (up2 B2 0 1 0) R S H Z)) (fun c hc => mkX_Bu (q := 0) (by decide) c hc) ?_
  refine a_iload_n C0 0 dX5_parish_41 rfl rfl ?_
  refine a_if_lt C0 50 dX5_parish_42 rfl (fun h42 => ?_) (fun h42 => ?_)
  · refine a_aload_n C0 1 dX5_parish_50 rfl rfl ?_
    refine g_X5_10 C0 (lt_b rfl) rfl rfl dX5_parish_51 ?_
    refine a_aload_n C0 1 dX5_parish_54 rfl rfl ?_
    refine g_X5_19 C0 (lt_b rfl) rfl rfl dX5_parish_55 ?_
    refine a_callV _ 1 C0 em_XNT (c_X1_copyFrom l G (ad := fun k => ad (io2 1 8 17 k))) u_c_X1_copyFrom u_m_X5_77 u_im_X1_copyFrom u_se_X1_copyFrom u_in_X1 hy_X1_copyFrom rfl (lt_b rfl) rfl (hRk rfl) rfl rfl (le_b rfl) dX5_parish_58 (k_vo ?_)
    refine AW.cg (M := (mkX O (rdI (B 1) bn (bn + 1) (up2 (firstP T) 0 10 (N 0 10)) (tk (B 1) bn 0)).2 K (rdI (B 1) bn (bn + 1) (up2 (firstP T) 0 10 (N 0 10)) (tk (B 1) bn 0)).2 (up2 B2 0 1 0) R S H Z)) mkX_NT ?_
    refine a_aload_n C0 1 dX5_parish_61 rfl rfl ?_
    refine a_iconst C0 0 dX5_parish_62 rfl ?_
    refine p_X5_81 C0 (lt_b rfl) rfl (lt_b rfl) rfl rfl dX5_parish_63 ?_
    refine AW.cg (M := (mkX (fun j => if j = 6 then 0 else O j) (rdI (B 1) bn (bn + 1) (up2 (firstP T) 0 10 (N 0 10)) (tk (B 1) bn 0)).2 K (rdI (B 1) bn (bn + 1) (up2 (firstP T) 0 10 (N 0 10)) (tk (B 1) bn 0)).2 (up2 B2 0 1 0) R S H Z)) mkX_Ou ?_
    refine a_aload_n C0 1 dX5_parish_66 rfl rfl ?_
    refine g_X5_10 C0 (lt_b rfl) rfl rfl dX5_parish_67 ?_
    refine g_X5_84 C0 (lt_b rfl) rfl rfl dX5_parish_70 ?_
    refine a_iret C0 hr dX5_parish_73 ?_
    exact ⟨_, rfl, (if_pos h42).symm, up2 B2 0 1 0, rfl, eb1, by rw [if_pos h42, if_pos h42]⟩
  · refine a_bipush C0 (-100) dX5_parish_45 rfl ?_
    refine a_iload_n C0 0 dX5_parish_47 rfl rfl ?_
    refine a_isub C0 dX5_parish_48 ?_
    refine a_iret C0 hr dX5_parish_49 ?_
    exact ⟨_, rfl, (if_neg h42).symm, up2 B2 0 1 0, rfl, eb1, by rw [if_neg h42, if_neg h42]⟩
