set_option maxRecDepth 100000 in
set_option maxHeartbeats 4000000 in
theorem c_X6_fits (l : Launch) (G : GE) {ad : Nat → Nat} {M : WM} {O S : RW} {X : WM} {P : WM} {nT mm : Nat} (rp : RP P S nT mm) {v x k : Int32} {cn : Nat} {W : WM} (rs : RSh W X) (hcn : ix v < 4 → W (2 * ix v) 1 = nI cn) (hcn40 : cn ≤ 40) (hm : mm + 61 < 2 ^ 31) (hM : M = mkM O S X)  : CT l G yX6_fits cX6_fits 10 (some .int) 4 [.ref (ad 0), .int v, .int x, .int k] 14 ad (shM G ad) M (PI (fun r u => r = (if (isSh v ∧ isTl P x ∧ (0 ≤ k ∧ k ≤ 1)) then (if W (2 * ix v) 0 = -1 then -11 else if k = 0 then (ftS (fun i => goS (W (2 * ix v + 1)) (ix x) cn 0 (up2 P 5 (ix x) (nI i))) 100).2 else (ftS (fun i => goS (W (2 * ix v + 1)) (ix x) cn 0 (up2 P 5 (ix x) (nI i))) 100).1) else -1) ∧ ∃ S' X', u = mkM O S' X' ∧ EqX X X' ∧ EqS S S')) := by
  refine CT.of (own := RX6) rfl rfl (le_b rfl) fun p e s m args below meth c A C0 hr => ?_
  refine AW.lo (ls2 := [(0, _), (1, _), (2, _), (3, _)]) rfl ?_
  subst hM
  have lp : ∀ (n : Nat) (i : Nat) (xi a b : Int32) (S1 : RW) (X1 : WM), 100 - i < n → (i ≤ 100) → (xi = nI (100 - i) - 1) → ((isSh v ∧ isTl P x ∧ (0 ≤ k ∧ k ≤ 1))) → (¬ W (2 * ix v) 0 = -1) → (∀ k, k < 63 → k ≠ 31 + 4 * ix x + 1 → S1 k = S k) → (EqX X X1) → ((a, b) = ftS (fun i => goS (W (2 * ix v + 1)) (ix x) cn 0 (up2 P 5 (ix x) (nI i))) i) → AW p l e (rmk 4) s m args below meth c G A 14 ad (shM G ad) 10 0 0 (MQ below (CQ G 14 ad (shM G ad) A (PI (fun r u => r = (if (isSh v ∧ isTl P x ∧ (0 ≤ k ∧ k ≤ 1)) then (if W (2 * ix v) 0 = -1 then -11 else if k = 0 then (ftS (fun i => goS (W (2 * ix v + 1)) (ix x) cn 0 (up2 P 5 (ix x) (nI i))) 100).2 else (ftS (fun i => goS (W (2 * ix v + 1)) (ix x) cn 0 (up2 P 5 (ix x) (nI i))) 100).1) else -1) ∧ ∃ S' X', u = mkM O S' X' ∧ EqX X X' ∧ EqS S S'))) args s 0 0 A) 69 [(0, .ref (ad 0)), (1, .int v), (2, .int x), (3, .int k), (4, .int (31 + 4 * x + 1)), (5, .int (S (31 + 4 * ix x + 1))), (6, .int b), (7, .int a), (8, .int xi)] [] (mkM O S1 X1) := by
    intro n
    induction n with
    | zero =>
      intro i xi a b S1 X1 hn
      exact absurd hn (Nat.not_lt_zero _)
    | succ n ih =>
      intro i xi a b S1 X1 hn hi hxi hc hmis hS1 hX1 hab
      have hv := (isTl_in rp.w).mp hc.2.1
      have hx : IX x (ix x) nT := IX.v hv
      have hz := pl_ (k := 1) (j := 1) (hx.le rp.t8) ⟨vq rfl, rfl⟩
      have hv4 := sh_in hc.1
      have hrs := rs.cn (vp_lt hv4) (hcn (vp_lt hv4)) hcn40
      refine a_iload C0 8 dX6_fits_69 rfl ?_
      refine a_if_lt C0 126 dX6_fits_71 rfl (fun h71 => ?_) (fun h71 => ?_)
      · refine a_aload_n C0 0 dX6_fits_126 rfl rfl ?_
        refine g_X6_7 C0 (lt_b rfl) rfl rfl dX6_fits_127 ?_
        refine a_iload C0 4 dX6_fits_130 rfl ?_
        refine a_iload C0 5 dX6_fits_132 rfl ?_
        refine a_iast C0 _ (lt_b rfl) (fun _ => rfl) hz.1 hz.2 dX6_fits_134 ?_
        refine a_iload_n C0 3 dX6_fits_135 rfl rfl ?_
        refine a_if_ne C0 144 dX6_fits_136 rfl (fun h136 => ?_) (fun h136 => ?_)
        · refine a_iload C0 7 dX6_fits_144 rfl ?_
          refine a_iret C0 hr dX6_fits_146 ?_
          rw [mkM_S]
          have e : i = 100 := by
            rcases Nat.lt_or_ge i 100 with q | q
            · rw [hxi, show 100 - i = (99 - i) + 1 by omega, nI_pred] at h71
              exact absurd h71 (Int32.not_lt.mpr (nI_le (a := 0) (Nat.zero_le _) (by omega)))
            · omega
          subst e
          refine ⟨_, rfl, ?_, _, _, rfl, hX1, fun k hk => ?_⟩
          · rw [if_pos hc, if_neg hmis, ← hab]
            first
              | rw [if_pos h136]
              | rw [if_neg h136]
          · by_cases e : k = 31 + 4 * ix x + 1
            · rw [e, up_eq]
            · rw [up_ne e, hS1 k hk e]
        · refine a_iload C0 6 dX6_fits_139 rfl ?_
          refine a_goto C0 146 dX6_fits_141 rfl ?_
          refine a_iret C0 hr dX6_fits_146 ?_
          rw [mkM_S]
          have e : i = 100 := by
            rcases Nat.lt_or_ge i 100 with q | q
            · rw [hxi, show 100 - i = (99 - i) + 1 by omega, nI_pred] at h71
              exact absurd h71 (Int32.not_lt.mpr (nI_le (a := 0) (Nat.zero_le _) (by omega)))
            · omega
          subst e
          refine ⟨_, rfl, ?_, _, _, rfl, hX1, fun k hk => ?_⟩
          · rw [if_pos hc, if_neg hmis, ← hab]
            first
              | rw [if_pos h136]
              | rw [if_neg h136]
          · by_cases e : k = 31 + 4 * ix x + 1
            · rw [e, up_eq]
            · rw [up_ne e, hS1 k hk e]
      · have hle : i ≤ 99 := by
          rcases Nat.lt_or_ge 99 i with q | q
          · exfalso
            apply h71
            rw [hxi, show 100 - i = 0 by omega]
            decide
          · exact q
        have hx99 : xi = nI (99 - i) := by
          rw [hxi, show 100 - i = (99 - i) + 1 by omega, nI_pred]
        refine a_aload_n C0 0 dX6_fits_74 rfl rfl ?_
        refine g_X6_7 C0 (lt_b rfl) rfl rfl dX6_fits_75 ?_
        refine a_iload C0 4 dX6_fits_78 rfl ?_
        refine a_iload C0 8 dX6_fits_80 rfl ?_
        refine a_iast C0 _ (lt_b rfl) (fun _ => rfl) hz.1 hz.2 dX6_fits_82 ?_
        rw [mkM_S]
        have rpi : RP (up2 P 5 (ix x) xi) (upS S1 (31 + 4 * ix x + 1) xi) nT mm := (rp.heat (v := xi) (vp_lt hv) (by rw [hx99]; exact vp_in_nI (by omega) (by decide))).eqS fun k hk => by
          by_cases e : k = 31 + 4 * ix x + 1
          · rw [e, up_eq, up_eq]
          · rw [up_ne e, up_ne e, hS1 k hk e]
        refine a_aload_n C0 0 dX6_fits_83 rfl rfl ?_
        refine a_iload_n C0 1 dX6_fits_84 rfl rfl ?_
        refine a_iload_n C0 2 dX6_fits_85 rfl rfl ?_
        refine a_callV _ 2 C0 EM.refl (c_X6_isTold l G (it := W (2 * ix v + 1)) rpi hv4 hx (by rw [hX1 8 (by decide) (by decide)]; exact hrs.1) hcn40 (by rw [hX1 9 (by decide) (by decide)]; exact hrs.2) hm rfl) u_c_X6_isTold u_m_X6_261 u_im_X6_isTold u_se_X6_isTold u_in_X6 hy_X6_isTold rfl (lt_b rfl) rfl (hRk rfl) rfl rfl (le_b rfl) dX6_fits_86 (k_i fun r86 u86 q86 => ?_)
        obtain ⟨rfl, S3, X3, rfl, hX3, hS3⟩ := q86
        refine a_istore (ls2 := [(9, _), (0, _), (1, _), (2, _), (3, _), (4, _), (5, _), (6, _), (7, _), (8, _)]) C0 dX6_fits_89 (lt_b rfl) rfl ?_
        refine a_iload C0 7 dX6_fits_91 rfl ?_
        refine a_iload C0 0 dX6_fits_93 rfl ?_
        refine a_if_eq C0 102 dX6_fits_95 rfl (fun h95 => ?_) (fun h95 => ?_)
        · refine a_iconst C0 0 dX6_fits_102 rfl ?_
          refine a_iadd C0 dX6_fits_103 ?_
          refine a_istore (ls2 := [(6, _), (9, _), (0, _), (1, _), (2, _), (3, _), (4, _), (5, _), (7, _), (8, _)]) C0 dX6_fits_104 (lt_b rfl) rfl ?_
          refine a_iload C0 1 dX6_fits_106 rfl ?_
          refine a_if_eq C0 116 dX6_fits_108 rfl (fun h108 => ?_) (fun h108 => ?_)
          · refine a_iload C0 8 dX6_fits_116 rfl ?_
            refine a_istore (ls2 := [(7, _), (6, _), (9, _), (0, _), (1, _), (2, _), (3, _), (4, _), (5, _), (8, _)]) C0 dX6_fits_118 (lt_b rfl) rfl ?_
            refine a_iinc (ls2 := [(8, _), (7, _), (6, _), (9, _), (0, _), (1, _), (2, _), (3, _), (4, _), (5, _)]) C0 9 (-1) dX6_fits_120 rfl rfl (lt_b rfl) rfl ?_
            refine a_goto C0 69 dX6_fits_123 rfl ?_
            refine AW.sub (ls2 := [(0, _), (1, _), (2, _), (3, _), (4, _), (5, _), (6, _), (7, _), (8, _)]) [4, 5, 6, 7, 8, 9, 2, 1, 0] rfl ?_
            exact ih (i + 1) _ _ _ _ _ (by omega) (by omega) (by rw [hx99, show 100 - (i + 1) = 99 - i by omega, Int32.sub_eq_add_neg]) hc hmis (fun k hk hkq => (hS3 k hk).trans ((up_ne hkq).trans (hS1 k hk hkq))) (hX1.trans hX3) (by
              show _ = if (fun i => goS (W (2 * ix v + 1)) (ix x) cn 0 (up2 P 5 (ix x) (nI i))) (99 - i) = true then (nI (99 - i), (ftS (fun i => goS (W (2 * ix v + 1)) (ix x) cn 0 (up2 P 5 (ix x) (nI i))) i).2 + 1) else ftS (fun i => goS (W (2 * ix v + 1)) (ix x) cn 0 (up2 P 5 (ix x) (nI i))) i
              rw [← hab]
              first
                | (rw [hx99] at h95
                   exact absurd h95 h108)
                | exact absurd h108 h95
                | exact absurd h95 h108
                | (have q : (fun i => goS (W (2 * ix v + 1)) (ix x) cn 0 (up2 P 5 (ix x) (nI i))) (99 - i) = true := by
                     have q := bI_1 h95
                     rw [hx99] at q
                     exact q
                   rw [if_pos q, hx99])
                | (have q : ¬ (fun i => goS (W (2 * ix v + 1)) (ix x) cn 0 (up2 P 5 (ix x) (nI i))) (99 - i) = true := by
                     have q := bI_0 h95
                     rw [hx99] at q
                     exact q
                   rw [if_neg q, Int32.add_zero]))
          · refine a_iload C0 9 dX6_fits_111 rfl ?_
            refine a_goto C0 118 dX6_fits_113 rfl ?_
            refine a_istore (ls2 := [(7, _), (6, _), (9, _), (0, _), (1, _), (2, _), (3, _), (4, _), (5, _), (8, _)]) C0 dX6_fits_118 (lt_b rfl) rfl ?_
            refine a_iinc (ls2 := [(8, _), (7, _), (6, _), (9, _), (0, _), (1, _), (2, _), (3, _), (4, _), (5, _)]) C0 9 (-1) dX6_fits_120 rfl rfl (lt_b rfl) rfl ?_
            refine a_goto C0 69 dX6_fits_123 rfl ?_
            refine AW.sub (ls2 := [(0, _), (1, _), (2, _), (3, _), (4, _), (5, _), (6, _), (7, _), (8, _)]) [4, 5, 6, 7, 8, 9, 2, 1, 0] rfl ?_
            exact ih (i + 1) _ _ _ _ _ (by omega) (by omega) (by rw [hx99, show 100 - (i + 1) = 99 - i by omega, Int32.sub_eq_add_neg]) hc hmis (fun k hk hkq => (hS3 k hk).trans ((up_ne hkq).trans (hS1 k hk hkq))) (hX1.trans hX3) (by
              show _ = if (fun i => goS (W (2 * ix v + 1)) (ix x) cn 0 (up2 P 5 (ix x) (nI i))) (99 - i) = true then (nI (99 - i), (ftS (fun i => goS (W (2 * ix v + 1)) (ix x) cn 0 (up2 P 5 (ix x) (nI i))) i).2 + 1) else ftS (fun i => goS (W (2 * ix v + 1)) (ix x) cn 0 (up2 P 5 (ix x) (nI i))) i
              rw [← hab]
              first
                | (rw [hx99] at h95
                   exact absurd h95 h108)
                | exact absurd h108 h95
                | exact absurd h95 h108
                | (have q : (fun i => goS (W (2 * ix v + 1)) (ix x) cn 0 (up2 P 5 (ix x) (nI i))) (99 - i) = true := by
                     have q := bI_1 h95
                     rw [hx99] at q
                     exact q
                   rw [if_pos q, hx99])
                | (have q : ¬ (fun i => goS (W (2 * ix v + 1)) (ix x) cn 0 (up2 P 5 (ix x) (nI i))) (99 - i) = true := by
                     have q := bI_0 h95
                     rw [hx99] at q
                     exact q
                   rw [if_neg q, Int32.add_zero]))
        · refine a_iconst C0 1 dX6_fits_98 rfl ?_
          refine a_goto C0 103 dX6_fits_99 rfl ?_
          refine a_iadd C0 dX6_fits_103 ?_
          refine a_istore (ls2 := [(6, _), (9, _), (0, _), (1, _), (2, _), (3, _), (4, _), (5, _), (7, _), (8, _)]) C0 dX6_fits_104 (lt_b rfl) rfl ?_
          refine a_iload C0 1 dX6_fits_106 rfl ?_
          refine a_if_eq C0 116 dX6_fits_108 rfl (fun h108 => ?_) (fun h108 => ?_)
          · refine a_iload C0 8 dX6_fits_116 rfl ?_
            refine a_istore (ls2 := [(7, _), (6, _), (9, _), (0, _), (1, _), (2, _), (3, _), (4, _), (5, _), (8, _)]) C0 dX6_fits_118 (lt_b rfl) rfl ?_
            refine a_iinc (ls2 := [(8, _), (7, _), (6, _), (9, _), (0, _), (1, _), (2, _), (3, _), (4, _), (5, _)]) C0 9 (-1) dX6_fits_120 rfl rfl (lt_b rfl) rfl ?_
            refine a_goto C0 69 dX6_fits_123 rfl ?_
            refine AW.sub (ls2 := [(0, _), (1, _), (2, _), (3, _), (4, _), (5, _), (6, _), (7, _), (8, _)]) [4, 5, 6, 7, 8, 9, 2, 1, 0] rfl ?_
            exact ih (i + 1) _ _ _ _ _ (by omega) (by omega) (by rw [hx99, show 100 - (i + 1) = 99 - i by omega, Int32.sub_eq_add_neg]) hc hmis (fun k hk hkq => (hS3 k hk).trans ((up_ne hkq).trans (hS1 k hk hkq))) (hX1.trans hX3) (by
              show _ = if (fun i => goS (W (2 * ix v + 1)) (ix x) cn 0 (up2 P 5 (ix x) (nI i))) (99 - i) = true then (nI (99 - i), (ftS (fun i => goS (W (2 * ix v + 1)) (ix x) cn 0 (up2 P 5 (ix x) (nI i))) i).2 + 1) else ftS (fun i => goS (W (2 * ix v + 1)) (ix x) cn 0 (up2 P 5 (ix x) (nI i))) i
              rw [← hab]
              first
                | (rw [hx99] at h95
                   exact absurd h95 h108)
                | exact absurd h108 h95
                | exact absurd h95 h108
                | (have q : (fun i => goS (W (2 * ix v + 1)) (ix x) cn 0 (up2 P 5 (ix x) (nI i))) (99 - i) = true := by
                     have q := bI_1 h95
                     rw [hx99] at q
                     exact q
                   rw [if_pos q, hx99])
                | (have q : ¬ (fun i => goS (W (2 * ix v + 1)) (ix x) cn 0 (up2 P 5 (ix x) (nI i))) (99 - i) = true := by
                     have q := bI_0 h95
                     rw [hx99] at q
                     exact q
                   rw [if_neg q, Int32.add_zero]))
          · refine a_iload C0 9 dX6_fits_111 rfl ?_
            refine a_goto C0 118 dX6_fits_113 rfl ?_
            refine a_istore (ls2 := [(7, _), (6, _), (9, _), (0, _), (1, _), (2, _), (3, _), (4, _), (5, _), (8, _)]) C0 dX6_fits_118 (lt_b rfl) rfl ?_
            refine a_iinc (ls2 := [(8, _), (7, _), (6, _), (9, _), (0, _), (1, _), (2, _), (3, _), (4, _), (5, _)]) C0 9 (-1) dX6_fits_120 rfl rfl (lt_b rfl) rfl ?_
            refine a_goto C0 69 dX6_fits_123 rfl ?_
            refine AW.sub (ls2 := [(0, _), (1, _), (2, _), (3, _), (4, _), (5, _), (6, _), (7, _), (8, _)]) [4, 5, 6, 7, 8, 9, 2, 1, 0] rfl ?_
            exact ih (i + 1) _ _ _ _ _ (by omega) (by omega) (by rw [hx99, show 100 - (i + 1) = 99 - i by omega, Int32.sub_eq_add_neg]) hc hmis (fun k hk hkq => (hS3 k hk).trans ((up_ne hkq).trans (hS1 k hk hkq))) (hX1.trans hX3) (by
              show _ = if (fun i => goS (W (2 * ix v + 1)) (ix x) cn 0 (up2 P 5 (ix x) (nI i))) (99 - i) = true then (nI (99 - i), (ftS (fun i => goS (W (2 * ix v + 1)) (ix x) cn 0 (up2 P 5 (ix x) (nI i))) i).2 + 1) else ftS (fun i => goS (W (2 * ix v + 1)) (ix x) cn 0 (up2 P 5 (ix x) (nI i))) i
              rw [← hab]
              first
                | (rw [hx99] at h95
                   exact absurd h95 h108)
                | exact absurd h108 h95
                | exact absurd h95 h108
                | (have q : (fun i => goS (W (2 * ix v + 1)) (ix x) cn 0 (up2 P 5 (ix x) (nI i))) (99 - i) = true := by
                     have q := bI_1 h95
                     rw [hx99] at q
                     exact q
                   rw [if_pos q, hx99])
                | (have q : ¬ (fun i => goS (W (2 * ix v + 1)) (ix x) cn 0 (up2 P 5 (ix x) (nI i))) (99 - i) = true := by
                     have q := bI_0 h95
                     rw [hx99] at q
                     exact q
                   rw [if_neg q, Int32.add_zero]))
  refine a_iload_n C0 1 dX6_fits_0 rfl rfl ?_
  refine a_callS _ 1 C0 EM.z (c_X6_isSheet l G) u_c_X6_isSheet u_m_X6_258 u_st_X6_isSheet u_in_X6 hy_X6_isSheet.2 (hRk rfl) rfl rfl (le_b rfl) dX6_fits_1 (k_ro EM.z ?_)
  refine a_if_eqb C0 25 dX6_fits_4 rfl (fun h4 => ?_) (fun h4 => ?_)
  · refine a_iconst C0 (-1) dX6_fits_25 rfl ?_
    refine a_iret C0 hr dX6_fits_26 ?_
    have hc : ¬ (isSh v ∧ isTl P x ∧ (0 ≤ k ∧ k ≤ 1)) := fun q => by
      first
        | exact h4 q.1
        | exact h12 q.2.1
        | exact h22 q.2.2
    exact ⟨_, rfl, (if_neg hc).symm, _, _, rfl, EqX.refl _, EqS.refl _⟩
  · refine a_aload_n C0 0 dX6_fits_7 rfl rfl ?_
    refine a_iload_n C0 2 dX6_fits_8 rfl rfl ?_
    refine a_callV _ 1 C0 EM.refl (c_X6_isOne l G rp  rfl) u_c_X6_isOne u_m_X6_173 u_im_X6_isOne u_se_X6_isOne u_in_X6 hy_X6_isOne rfl (lt_b rfl) rfl (hRk rfl) rfl rfl (le_b rfl) dX6_fits_9 (k_ro EM.refl ?_)
    refine a_if_eqb C0 25 dX6_fits_12 rfl (fun h12 => ?_) (fun h12 => ?_)
    · refine a_iconst C0 (-1) dX6_fits_25 rfl ?_
      refine a_iret C0 hr dX6_fits_26 ?_
      have hc : ¬ (isSh v ∧ isTl P x ∧ (0 ≤ k ∧ k ≤ 1)) := fun q => by
        first
          | exact h4 q.1
          | exact h12 q.2.1
          | exact h22 q.2.2
      exact ⟨_, rfl, (if_neg hc).symm, _, _, rfl, EqX.refl _, EqS.refl _⟩
    · refine a_iload_n C0 3 dX6_fits_15 rfl rfl ?_
      refine a_i2l C0 dX6_fits_16 ?_
      refine a_lconst C0 0 dX6_fits_17 rfl ?_
      refine a_lconst C0 1 dX6_fits_18 rfl ?_
      refine a_callS _ 3 C0 EM.z (c_X6_isIn l G (w2 := 0) (w3 := 1) rfl rfl rfl) u_c_X6_isIn u_m_X6_54 u_st_X6_isIn u_in_X6 hy_X6_isIn.2 (hRk rfl) rfl rfl (le_b rfl) dX6_fits_19 (k_ro EM.z ?_)
      refine a_if_neb C0 27 dX6_fits_22 rfl (fun h22 => ?_) (fun h22 => ?_)
      · have hc : (isSh v ∧ isTl P x ∧ (0 ≤ k ∧ k ≤ 1)) := ⟨h4, h12, h22⟩
        have hv4 := sh_in h4
        refine a_aload_n C0 0 dX6_fits_27 rfl rfl ?_
        refine g_X6_28 C0 (lt_b rfl) rfl rfl dX6_fits_28 ?_
        refine a_iload_n C0 1 dX6_fits_31 rfl rfl ?_
        refine a_iald C0 _ (lt_b rfl) rfl hv4 rfl dX6_fits_32 ?_
        refine a_if_ge C0 39 dX6_fits_33 rfl (fun h33 => ?_) (fun h33 => ?_)
        · have hmis : ¬ W (2 * ix v) 0 = -1 := fun q => absurd ((rs.mis (vp_lt hv4)).mpr q) (Int32.not_lt.mpr h33)
          have hv := (isTl_in rp.w).mp h12
          have hx : IX x (ix x) nT := IX.v hv
          have hz := pl_ (k := 1) (j := 1) (hx.le rp.t8) ⟨vq rfl, rfl⟩
          refine a_bipush C0 31 dX6_fits_39 rfl ?_
          refine a_iconst C0 4 dX6_fits_41 rfl ?_
          refine a_iload_n C0 2 dX6_fits_42 rfl rfl ?_
          refine a_imul C0 dX6_fits_43 ?_
          refine a_iadd C0 dX6_fits_44 ?_
          refine a_iconst C0 1 dX6_fits_45 rfl ?_
          refine a_iadd C0 dX6_fits_46 ?_
          refine a_istore (ls2 := [(4, _), (0, _), (1, _), (2, _), (3, _)]) C0 dX6_fits_47 (lt_b rfl) rfl ?_
          refine a_aload_n C0 1 dX6_fits_49 rfl rfl ?_
          refine g_X6_7 C0 (lt_b rfl) rfl rfl dX6_fits_50 ?_
          refine a_iload C0 0 dX6_fits_53 rfl ?_
          refine a_iald C0 _ (lt_b rfl) rfl hz.1 hz.2 dX6_fits_55 ?_
          refine a_istore (ls2 := [(5, _), (4, _), (0, _), (1, _), (2, _), (3, _)]) C0 dX6_fits_56 (lt_b rfl) rfl ?_
          refine a_iconst C0 0 dX6_fits_58 rfl ?_
          refine a_istore (ls2 := [(6, _), (5, _), (4, _), (0, _), (1, _), (2, _), (3, _)]) C0 dX6_fits_59 (lt_b rfl) rfl ?_
          refine a_bipush C0 (-3) dX6_fits_61 rfl ?_
          refine a_istore (ls2 := [(7, _), (6, _), (5, _), (4, _), (0, _), (1, _), (2, _), (3, _)]) C0 dX6_fits_63 (lt_b rfl) rfl ?_
          refine a_bipush C0 99 dX6_fits_65 rfl ?_
          refine a_istore (ls2 := [(8, _), (7, _), (6, _), (5, _), (4, _), (0, _), (1, _), (2, _), (3, _)]) C0 dX6_fits_67 (lt_b rfl) rfl ?_
          refine AW.sub (ls2 := [(0, _), (1, _), (2, _), (3, _), (4, _), (5, _), (6, _), (7, _), (8, _)]) [5, 6, 7, 8, 4, 3, 2, 1, 0] rfl ?_
          exact lp 101 0 _ _ _ _ _ (by omega) (Nat.zero_le _) rfl ⟨h4, h12, h22⟩ hmis (fun _ _ _ => rfl) (EqX.refl _) rfl
        · have hmis : W (2 * ix v) 0 = -1 := (rs.mis (vp_lt hv4)).mp (Int32.not_le.mp h33)
          refine a_bipush C0 (-11) dX6_fits_36 rfl ?_
          refine a_iret C0 hr dX6_fits_38 ?_
          exact ⟨_, rfl, by rw [if_pos hc, if_pos hmis], _, _, rfl, EqX.refl _, EqS.refl _⟩
      · refine a_iconst C0 (-1) dX6_fits_25 rfl ?_
        refine a_iret C0 hr dX6_fits_26 ?_
        have hc : ¬ (isSh v ∧ isTl P x ∧ (0 ≤ k ∧ k ≤ 1)) := fun q => by
          first
            | exact h4 q.1
            | exact h12 q.2.1
            | exact h22 q.2.2
        exact ⟨_, rfl, (if_neg hc).symm, _, _, rfl, EqX.refl _, EqS.refl _⟩
