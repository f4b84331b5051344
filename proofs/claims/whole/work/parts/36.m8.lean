
theorem sle_eq {a b : Int32} (h : ¬ a < b) (h2 : ¬ b < a) : a = b := by
  have a1 := Int32.le_iff_toInt_le.mp (Int32.not_lt.mp h)
  have a2 := Int32.le_iff_toInt_le.mp (Int32.not_lt.mp h2)
  exact i32_om (by omega)
/-- the greater of two, by the one before -/
theorem gr_yes {a b : Int32} (h : a < b) : (if b < a then a else b) = b := if_neg (Int32.not_lt.mpr (Int32.le_of_lt h))
theorem gr_no {a b : Int32} (h : ¬ a < b) : (if b < a then a else b) = a := by
  by_cases h2 : b < a
  · exact if_pos h2
  · rw [if_neg h2]
    exact sle_eq h2 h

set_option maxRecDepth 100000 in
set_option maxHeartbeats 4000000 in
theorem c_X6_farthestBy (l : Launch) (G : GE) {ad : Nat → Nat} {M : WM} {O S : RW} {X : WM} {nT mm : Nat} {x z w y : Int32} {t q ln : Nat} {Pf : Nat → WM} (hx : IX x t nT) (hz : IX z q 63) (hw : w = nI ln) (hln : ln ≤ 99) (hy : vp_in y 61) (hm : mm + 61 < 2 ^ 31) (hP : ∀ i, i ≤ ln → RP (Pf i) (upS S q (nI i)) nT mm) (hM : M = mkM O S X)  : CT l G yX6_farthestBy cX6_farthestBy 10 (some .int) 5 [.ref (ad 0), .int x, .int z, .int w, .int y] 14 ad (shM G ad) M (PI (fun r u => r = (bsS (fun i => bcS (minsP (ix y) (Pf i) t 7 t)) (ln + 1)).1 ∧ ∃ S' X', u = mkM O S' X' ∧ EqX X X' ∧ EqS S S')) := by
  refine CT.of (own := RX6) rfl rfl (le_b rfl) fun p e s m args below meth c A C0 hr => ?_
  refine AW.lo (ls2 := [(0, _), (1, _), (2, _), (3, _), (4, _)]) rfl ?_
  subst hM
  have lp : ∀ (n : Nat) (i : Nat) (xi a b : Int32) (S1 : RW) (X1 : WM), ln + 1 - i < n → (i ≤ ln + 1) → (xi = nI i) → (∀ k, k < 63 → k ≠ q → S1 k = S k) → (EqX X X1) → ((a, b) = bsS (fun i => bcS (minsP (ix y) (Pf i) t 7 t)) i) → AW p l e (rmk 5) s m args below meth c G A 14 ad (shM G ad) 10 0 0 (MQ below (CQ G 14 ad (shM G ad) A (PI (fun r u => r = (bsS (fun i => bcS (minsP (ix y) (Pf i) t 7 t)) (ln + 1)).1 ∧ ∃ S' X', u = mkM O S' X' ∧ EqX X X' ∧ EqS S S'))) args s 0 0 A) 17 [(0, .ref (ad 0)), (1, .int x), (2, .int z), (3, .int w), (4, .int y), (5, .int (S q)), (6, .int a), (7, .int b), (8, .int xi)] [] (mkM O S1 X1) := by
    intro n
    induction n with
    | zero =>
      intro i xi a b S1 X1 hn
      exact absurd hn (Nat.not_lt_zero _)
    | succ n ih =>
      intro i xi a b S1 X1 hn hi hxi hS1 hX1 hab
      refine a_iload C0 8 dX6_farthestBy_17 rfl ?_
      refine a_iload_n C0 3 dX6_farthestBy_19 rfl rfl ?_
      refine a_icmp_gt C0 71 dX6_farthestBy_20 rfl (fun h20 => ?_) (fun h20 => ?_)
      · refine a_aload_n C0 0 dX6_farthestBy_71 rfl rfl ?_
        refine g_X6_7 C0 (lt_b rfl) rfl rfl dX6_farthestBy_72 ?_
        refine a_iload_n C0 2 dX6_farthestBy_75 rfl rfl ?_
        refine a_iload C0 5 dX6_farthestBy_76 rfl ?_
        refine a_iast C0 _ (lt_b rfl) (fun _ => rfl) hz.1 hz.2 dX6_farthestBy_78 ?_
        refine a_iload C0 6 dX6_farthestBy_79 rfl ?_
        refine a_iret C0 hr dX6_farthestBy_81 ?_
        rw [mkM_S]
        have hge : ln < i := by
          rw [hxi, hw] at h20
          exact (nI_ltI (by omega) (by omega)).mp h20
        refine ⟨_, rfl, ?_, _, _, rfl, hX1, fun k hk => ?_⟩
        · rw [show ln + 1 = i by omega, ← hab]
        · by_cases e : k = q
          · rw [e, up_eq]
          · rw [up_ne e, hS1 k hk e]
      · have hle : i ≤ ln := Nat.not_lt.mp fun z => h20 (by rw [hxi, hw]; exact nI_lt z (by omega))
        refine a_aload_n C0 0 dX6_farthestBy_23 rfl rfl ?_
        refine g_X6_7 C0 (lt_b rfl) rfl rfl dX6_farthestBy_24 ?_
        refine a_iload_n C0 2 dX6_farthestBy_27 rfl rfl ?_
        refine a_iload C0 8 dX6_farthestBy_28 rfl ?_
        refine a_iast C0 _ (lt_b rfl) (fun _ => rfl) hz.1 hz.2 dX6_farthestBy_30 ?_
        rw [mkM_S]
        have rpi : RP (Pf i) (upS S1 q xi) nT mm := (hP i hle).eqS fun k hk => by
          by_cases e : k = q
          · subst e
            rw [up_eq, up_eq, hxi]
          · rw [up_ne e, up_ne e, hS1 k hk e]
        refine a_aload_n C0 0 dX6_farthestBy_31 rfl rfl ?_
        refine a_iload_n C0 1 dX6_farthestBy_32 rfl rfl ?_
        refine a_iload C0 4 dX6_farthestBy_33 rfl ?_
        refine a_callV _ 2 C0 EM.refl (c_X6_reachBy l G rpi hx hy hm rfl) u_c_X6_reachBy u_m_X6_237 u_im_X6_reachBy u_se_X6_reachBy u_in_X6 hy_X6_reachBy rfl (lt_b rfl) rfl (hRk rfl) rfl rfl (le_b rfl) dX6_farthestBy_35 (k_i fun r35 u35 q35 => ?_)
        obtain ⟨rfl, S3, X3, rfl, hX3, hS3⟩ := q35
        refine a_istore (ls2 := [(9, _), (0, _), (1, _), (2, _), (3, _), (4, _), (5, _), (6, _), (7, _), (8, _)]) C0 dX6_farthestBy_38 (lt_b rfl) rfl ?_
        refine a_iload C0 0 dX6_farthestBy_40 rfl ?_
        refine a_iload C0 8 dX6_farthestBy_42 rfl ?_
        refine a_icmp_le C0 52 dX6_farthestBy_44 rfl (fun h44 => ?_) (fun h44 => ?_)
        · refine a_iload C0 7 dX6_farthestBy_52 rfl ?_
          refine a_istore (ls2 := [(6, _), (9, _), (0, _), (1, _), (2, _), (3, _), (4, _), (5, _), (7, _), (8, _)]) C0 dX6_farthestBy_54 (lt_b rfl) rfl ?_
          refine a_iload C0 8 dX6_farthestBy_56 rfl ?_
          refine a_iload C0 1 dX6_farthestBy_58 rfl ?_
          refine a_callS _ 2 C0 EM.z (c_X6_greatest l G) u_c_X6_greatest u_m_X6_240 u_st_X6_greatest u_in_X6 hy_X6_greatest.2 (hRk rfl) rfl rfl (le_b rfl) dX6_farthestBy_60 (k_ro EM.z ?_)
          refine a_istore (ls2 := [(7, _), (6, _), (9, _), (0, _), (1, _), (2, _), (3, _), (4, _), (5, _), (8, _)]) C0 dX6_farthestBy_63 (lt_b rfl) rfl ?_
          refine a_iinc (ls2 := [(8, _), (7, _), (6, _), (9, _), (0, _), (1, _), (2, _), (3, _), (4, _), (5, _)]) C0 9 1 dX6_farthestBy_65 rfl rfl (lt_b rfl) rfl ?_
          refine a_goto C0 17 dX6_farthestBy_68 rfl ?_
          refine AW.sub (ls2 := [(0, _), (1, _), (2, _), (3, _), (4, _), (5, _), (6, _), (7, _), (8, _)]) [4, 5, 6, 7, 8, 9, 2, 1, 0] rfl ?_
          exact ih (i + 1) _ _ _ _ _ (by omega) (by omega) (by rw [hxi, nI_1]) (fun k hk hkq => (hS3 k hk).trans ((up_ne hkq).trans (hS1 k hk hkq))) (hX1.trans hX3) (by
            show _ = if (bsS (fun i => bcS (minsP (ix y) (Pf i) t 7 t)) i).2 < (fun i => bcS (minsP (ix y) (Pf i) t 7 t)) i then (nI i, (fun i => bcS (minsP (ix y) (Pf i) t 7 t)) i) else bsS (fun i => bcS (minsP (ix y) (Pf i) t 7 t)) i
            rw [← hab]
            first
              | rw [if_pos (Int32.not_le.mp h44), gr_yes (Int32.not_le.mp h44), hxi]
              | rw [if_neg (Int32.not_lt.mpr h44), gr_no (Int32.not_lt.mpr h44)])
        · refine a_iload C0 9 dX6_farthestBy_47 rfl ?_
          refine a_goto C0 54 dX6_farthestBy_49 rfl ?_
          refine a_istore (ls2 := [(6, _), (9, _), (0, _), (1, _), (2, _), (3, _), (4, _), (5, _), (7, _), (8, _)]) C0 dX6_farthestBy_54 (lt_b rfl) rfl ?_
          refine a_iload C0 8 dX6_farthestBy_56 rfl ?_
          refine a_iload C0 1 dX6_farthestBy_58 rfl ?_
          refine a_callS _ 2 C0 EM.z (c_X6_greatest l G) u_c_X6_greatest u_m_X6_240 u_st_X6_greatest u_in_X6 hy_X6_greatest.2 (hRk rfl) rfl rfl (le_b rfl) dX6_farthestBy_60 (k_ro EM.z ?_)
          refine a_istore (ls2 := [(7, _), (6, _), (9, _), (0, _), (1, _), (2, _), (3, _), (4, _), (5, _), (8, _)]) C0 dX6_farthestBy_63 (lt_b rfl) rfl ?_
          refine a_iinc (ls2 := [(8, _), (7, _), (6, _), (9, _), (0, _), (1, _), (2, _), (3, _), (4, _), (5, _)]) C0 9 1 dX6_farthestBy_65 rfl rfl (lt_b rfl) rfl ?_
          refine a_goto C0 17 dX6_farthestBy_68 rfl ?_
          refine AW.sub (ls2 := [(0, _), (1, _), (2, _), (3, _), (4, _), (5, _), (6, _), (7, _), (8, _)]) [4, 5, 6, 7, 8, 9, 2, 1, 0] rfl ?_
          exact ih (i + 1) _ _ _ _ _ (by omega) (by omega) (by rw [hxi, nI_1]) (fun k hk hkq => (hS3 k hk).trans ((up_ne hkq).trans (hS1 k hk hkq))) (hX1.trans hX3) (by
            show _ = if (bsS (fun i => bcS (minsP (ix y) (Pf i) t 7 t)) i).2 < (fun i => bcS (minsP (ix y) (Pf i) t 7 t)) i then (nI i, (fun i => bcS (minsP (ix y) (Pf i) t 7 t)) i) else bsS (fun i => bcS (minsP (ix y) (Pf i) t 7 t)) i
            rw [← hab]
            first
              | rw [if_pos (Int32.not_le.mp h44), gr_yes (Int32.not_le.mp h44), hxi]
              | rw [if_neg (Int32.not_lt.mpr h44), gr_no (Int32.not_lt.mpr h44)])
  refine a_aload_n C0 0 dX6_farthestBy_0 rfl rfl ?_
  refine g_X6_7 C0 (lt_b rfl) rfl rfl dX6_farthestBy_1 ?_
  refine a_iload_n C0 2 dX6_farthestBy_4 rfl rfl ?_
  refine a_iald C0 _ (lt_b rfl) rfl hz.1 hz.2 dX6_farthestBy_5 ?_
  refine a_istore (ls2 := [(5, _), (0, _), (1, _), (2, _), (3, _), (4, _)]) C0 dX6_farthestBy_6 (lt_b rfl) rfl ?_
  refine a_iconst C0 0 dX6_farthestBy_8 rfl ?_
  refine a_istore (ls2 := [(6, _), (5, _), (0, _), (1, _), (2, _), (3, _), (4, _)]) C0 dX6_farthestBy_9 (lt_b rfl) rfl ?_
  refine a_iconst C0 (-1) dX6_farthestBy_11 rfl ?_
  refine a_istore (ls2 := [(7, _), (6, _), (5, _), (0, _), (1, _), (2, _), (3, _), (4, _)]) C0 dX6_farthestBy_12 (lt_b rfl) rfl ?_
  refine a_iconst C0 0 dX6_farthestBy_14 rfl ?_
  refine a_istore (ls2 := [(8, _), (7, _), (6, _), (5, _), (0, _), (1, _), (2, _), (3, _), (4, _)]) C0 dX6_farthestBy_15 (lt_b rfl) rfl ?_
  refine AW.sub (ls2 := [(0, _), (1, _), (2, _), (3, _), (4, _), (5, _), (6, _), (7, _), (8, _)]) [4, 5, 6, 7, 8, 3, 2, 1, 0] rfl ?_
  exact lp (ln + 2) 0 _ _ _ _ _ (by omega) (Nat.zero_le _) rfl (fun _ _ _ => rfl) (EqX.refl _) rfl
set_option maxRecDepth 100000 in
set_option maxHeartbeats 4000000 in
theorem c_X6_friendFor (l : Launch) (G : GE) {ad : Nat → Nat} {M : WM} {O S : RW} {X : WM} {P : WM} {nT mm : Nat} (rp : RP P S nT mm) {h v y : Int32} (hm : mm + 61 < 2 ^ 31) (hM : M = mkM O S X)  : CT l G yX6_friendFor cX6_friendFor 4 (some .int) 6 [.ref (ad 0), .int h, .int v, .int y] 14 ad (shM G ad) M (PI (fun r u => r = (if (isHo h ∧ isTl P v ∧ (1 ≤ y ∧ y ≤ 30)) then (bsS (fun i => bcS (minsP (ix y) (up2 P 2 (ix h) (nI i)) (ix v) 7 (ix v))) 8).1 else -1) ∧ ∃ S' X', u = mkM O S' X' ∧ EqX X X' ∧ EqS S S')) := by
  refine CT.of (own := RX6) rfl rfl (le_b rfl) fun p e s m args below meth c A C0 hr => ?_
  refine AW.lo (ls2 := [(0, _), (1, _), (2, _), (3, _)]) rfl ?_
  subst hM
  refine a_iload_n C0 1 dX6_friendFor_0 rfl rfl ?_
  refine a_callS _ 1 C0 EM.z (c_X6_isHouse l G) u_c_X6_isHouse u_m_X6_164 u_st_X6_isHouse u_in_X6 hy_X6_isHouse.2 (hRk rfl) rfl rfl (le_b rfl) dX6_friendFor_1 (k_ro EM.z ?_)
  refine a_if_eqb C0 37 dX6_friendFor_4 rfl (fun h4 => ?_) (fun h4 => ?_)
  · refine a_iconst C0 (-1) dX6_friendFor_37 rfl ?_
    refine a_iret C0 hr dX6_friendFor_38 ?_
    first
      | (have hc : (isHo h ∧ isTl P v ∧ (1 ≤ y ∧ y ≤ 30)) := ⟨h4, h12, h19⟩
         exact ⟨_, rfl, (if_pos hc).symm, _, _, rfl, hX, hS⟩)
      | (have hc : ¬ (isHo h ∧ isTl P v ∧ (1 ≤ y ∧ y ≤ 30)) := fun q => by
           first
             | exact h4 q.1
             | exact h12 q.2.1
             | exact h19 q.2.2
         exact ⟨_, rfl, (if_neg hc).symm, _, _, rfl, EqX.refl _, EqS.refl _⟩)
  · refine a_aload_n C0 0 dX6_friendFor_7 rfl rfl ?_
    refine a_iload_n C0 2 dX6_friendFor_8 rfl rfl ?_
    refine a_callV _ 1 C0 EM.refl (c_X6_isOne l G rp  rfl) u_c_X6_isOne u_m_X6_173 u_im_X6_isOne u_se_X6_isOne u_in_X6 hy_X6_isOne rfl (lt_b rfl) rfl (hRk rfl) rfl rfl (le_b rfl) dX6_friendFor_9 (k_ro EM.refl ?_)
    refine a_if_eqb C0 37 dX6_friendFor_12 rfl (fun h12 => ?_) (fun h12 => ?_)
    · refine a_iconst C0 (-1) dX6_friendFor_37 rfl ?_
      refine a_iret C0 hr dX6_friendFor_38 ?_
      first
        | (have hc : (isHo h ∧ isTl P v ∧ (1 ≤ y ∧ y ≤ 30)) := ⟨h4, h12, h19⟩
           exact ⟨_, rfl, (if_pos hc).symm, _, _, rfl, hX, hS⟩)
        | (have hc : ¬ (isHo h ∧ isTl P v ∧ (1 ≤ y ∧ y ≤ 30)) := fun q => by
             first
               | exact h4 q.1
               | exact h12 q.2.1
               | exact h19 q.2.2
           exact ⟨_, rfl, (if_neg hc).symm, _, _, rfl, EqX.refl _, EqS.refl _⟩)
    · refine a_iload_n C0 3 dX6_friendFor_15 rfl rfl ?_
      refine a_callS _ 1 C0 EM.z (c_X6_isShort l G) u_c_X6_isShort u_m_X6_243 u_st_X6_isShort u_in_X6 hy_X6_isShort.2 (hRk rfl) rfl rfl (le_b rfl) dX6_friendFor_16 (k_ro EM.z ?_)
      refine a_if_eqb C0 37 dX6_friendFor_19 rfl (fun h19 => ?_) (fun h19 => ?_)
      · refine a_iconst C0 (-1) dX6_friendFor_37 rfl ?_
        refine a_iret C0 hr dX6_friendFor_38 ?_
        first
          | (have hc : (isHo h ∧ isTl P v ∧ (1 ≤ y ∧ y ≤ 30)) := ⟨h4, h12, h19⟩
             exact ⟨_, rfl, (if_pos hc).symm, _, _, rfl, hX, hS⟩)
          | (have hc : ¬ (isHo h ∧ isTl P v ∧ (1 ≤ y ∧ y ≤ 30)) := fun q => by
               first
                 | exact h4 q.1
                 | exact h12 q.2.1
                 | exact h19 q.2.2
             exact ⟨_, rfl, (if_neg hc).symm, _, _, rfl, EqX.refl _, EqS.refl _⟩)
      · have hv := (isTl_in rp.w).mp h12
        have hx : IX v (ix v) nT := IX.v hv
        have hh8 := ho_in h4
        have hz := ((IX.v hh8).pl 7 (bb := 7) rfl (by decide)).le (n2 := 63) (by decide)
        refine a_aload_n C0 0 dX6_friendFor_22 rfl rfl ?_
        refine a_iload_n C0 2 dX6_friendFor_23 rfl rfl ?_
        refine a_bipush C0 7 dX6_friendFor_24 rfl ?_
        refine a_iload_n C0 1 dX6_friendFor_26 rfl rfl ?_
        refine a_iadd C0 dX6_friendFor_27 ?_
        refine a_bipush C0 7 dX6_friendFor_28 rfl ?_
        refine a_iload_n C0 3 dX6_friendFor_30 rfl rfl ?_
        refine a_callV _ 4 C0 EM.refl (c_X6_farthestBy l G (ln := 7) (Pf := fun i => up2 P 2 (ix h) (nI i)) hx hz rfl (by decide) (vp_le (in_of (n := 30) (by decide) ⟨Int32.le_trans (by decide) h19.1, h19.2⟩) (by decide)) hm (fun i hi => rp.fr' (vp_lt hh8) (vp_in_nI (by omega) (by decide))) rfl) u_c_X6_farthestBy u_m_X6_246 u_im_X6_farthestBy u_se_X6_farthestBy u_in_X6 hy_X6_farthestBy rfl (lt_b rfl) rfl (hRk rfl) rfl rfl (le_b rfl) dX6_friendFor_31 (k_i fun r31 u31 q31 => ?_)
        obtain ⟨rfl, S3, X3, rfl, hX, hS⟩ := q31
        refine a_goto C0 38 dX6_friendFor_34 rfl ?_
        refine a_iret C0 hr dX6_friendFor_38 ?_
        first
          | (have hc : (isHo h ∧ isTl P v ∧ (1 ≤ y ∧ y ≤ 30)) := ⟨h4, h12, h19⟩
             exact ⟨_, rfl, (if_pos hc).symm, _, _, rfl, hX, hS⟩)
          | (have hc : ¬ (isHo h ∧ isTl P v ∧ (1 ≤ y ∧ y ≤ 30)) := fun q => by
               first
                 | exact h4 q.1
                 | exact h12 q.2.1
                 | exact h19 q.2.2
             exact ⟨_, rfl, (if_neg hc).symm, _, _, rfl, EqX.refl _, EqS.refl _⟩)
set_option maxRecDepth 100000 in
set_option maxHeartbeats 4000000 in
theorem c_X6_kindFor (l : Launch) (G : GE) {ad : Nat → Nat} {M : WM} {O S : RW} {X : WM} {P : WM} {nT mm : Nat} (rp : RP P S nT mm) {v y : Int32} (hm : mm + 61 < 2 ^ 31) (hM : M = mkM O S X)  : CT l G yX6_kindFor cX6_kindFor 3 (some .int) 6 [.ref (ad 0), .int v, .int y] 14 ad (shM G ad) M (PI (fun r u => r = (if (isTl P v ∧ (1 ≤ y ∧ y ≤ 30)) then (bsS (fun i => bcS (minsP (ix y) (up2 P 4 (ix v) (nI i)) (ix v) 7 (ix v))) 6).1 else -1) ∧ ∃ S' X', u = mkM O S' X' ∧ EqX X X' ∧ EqS S S')) := by
  refine CT.of (own := RX6) rfl rfl (le_b rfl) fun p e s m args below meth c A C0 hr => ?_
  refine AW.lo (ls2 := [(0, _), (1, _), (2, _)]) rfl ?_
  subst hM
  refine a_aload_n C0 0 dX6_kindFor_0 rfl rfl ?_
  refine a_iload_n C0 1 dX6_kindFor_1 rfl rfl ?_
  refine a_callV _ 1 C0 EM.refl (c_X6_isOne l G rp  rfl) u_c_X6_isOne u_m_X6_173 u_im_X6_isOne u_se_X6_isOne u_in_X6 hy_X6_isOne rfl (lt_b rfl) rfl (hRk rfl) rfl rfl (le_b rfl) dX6_kindFor_2 (k_ro EM.refl ?_)
  refine a_if_eqb C0 31 dX6_kindFor_5 rfl (fun h5 => ?_) (fun h5 => ?_)
  · refine a_iconst C0 (-1) dX6_kindFor_31 rfl ?_
    refine a_iret C0 hr dX6_kindFor_32 ?_
    first
      | (have hc : (isTl P v ∧ (1 ≤ y ∧ y ≤ 30)) := ⟨h5, h12⟩
         exact ⟨_, rfl, (if_pos hc).symm, _, _, rfl, hX, hS⟩)
      | (have hc : ¬ (isTl P v ∧ (1 ≤ y ∧ y ≤ 30)) := fun q => by
           first
             | exact h5 q.1
             | exact h12 q.2
         exact ⟨_, rfl, (if_neg hc).symm, _, _, rfl, EqX.refl _, EqS.refl _⟩)
  · refine a_iload_n C0 2 dX6_kindFor_8 rfl rfl ?_
    refine a_callS _ 1 C0 EM.z (c_X6_isShort l G) u_c_X6_isShort u_m_X6_243 u_st_X6_isShort u_in_X6 hy_X6_isShort.2 (hRk rfl) rfl rfl (le_b rfl) dX6_kindFor_9 (k_ro EM.z ?_)
    refine a_if_eqb C0 31 dX6_kindFor_12 rfl (fun h12 => ?_) (fun h12 => ?_)
    · refine a_iconst C0 (-1) dX6_kindFor_31 rfl ?_
      refine a_iret C0 hr dX6_kindFor_32 ?_
      first
        | (have hc : (isTl P v ∧ (1 ≤ y ∧ y ≤ 30)) := ⟨h5, h12⟩
           exact ⟨_, rfl, (if_pos hc).symm, _, _, rfl, hX, hS⟩)
        | (have hc : ¬ (isTl P v ∧ (1 ≤ y ∧ y ≤ 30)) := fun q => by
             first
               | exact h5 q.1
               | exact h12 q.2
           exact ⟨_, rfl, (if_neg hc).symm, _, _, rfl, EqX.refl _, EqS.refl _⟩)
    · have hv := (isTl_in rp.w).mp h5
      have hx : IX v (ix v) nT := IX.v hv
      have hz := pl0 (hx.le rp.t8)
      refine a_aload_n C0 0 dX6_kindFor_15 rfl rfl ?_
      refine a_iload_n C0 1 dX6_kindFor_16 rfl rfl ?_
      refine a_bipush C0 31 dX6_kindFor_17 rfl ?_
      refine a_iconst C0 4 dX6_kindFor_19 rfl ?_
      refine a_iload_n C0 1 dX6_kindFor_20 rfl rfl ?_
      refine a_imul C0 dX6_kindFor_21 ?_
      refine a_iadd C0 dX6_kindFor_22 ?_
      refine a_iconst C0 5 dX6_kindFor_23 rfl ?_
      refine a_iload_n C0 2 dX6_kindFor_24 rfl rfl ?_
      refine a_callV _ 4 C0 EM.refl (c_X6_farthestBy l G (ln := 5) (Pf := fun i => up2 P 4 (ix v) (nI i)) hx hz rfl (by decide) (vp_le (in_of (n := 30) (by decide) ⟨Int32.le_trans (by decide) h12.1, h12.2⟩) (by decide)) hm (fun i hi => rp.of' (j := 0) (vp_lt hv) (by decide) (fun _ => vp_in_nI (by omega) (by decide)) (fun q => absurd q (by decide)) (fun q => absurd q (by decide)) (fun q => absurd q (by decide))) rfl) u_c_X6_farthestBy u_m_X6_246 u_im_X6_farthestBy u_se_X6_farthestBy u_in_X6 hy_X6_farthestBy rfl (lt_b rfl) rfl (hRk rfl) rfl rfl (le_b rfl) dX6_kindFor_25 (k_i fun r25 u25 q25 => ?_)
      obtain ⟨rfl, S3, X3, rfl, hX, hS⟩ := q25
      refine a_goto C0 32 dX6_kindFor_28 rfl ?_
      refine a_iret C0 hr dX6_kindFor_32 ?_
      first
        | (have hc : (isTl P v ∧ (1 ≤ y ∧ y ≤ 30)) := ⟨h5, h12⟩
           exact ⟨_, rfl, (if_pos hc).symm, _, _, rfl, hX, hS⟩)
        | (have hc : ¬ (isTl P v ∧ (1 ≤ y ∧ y ≤ 30)) := fun q => by
             first
               | exact h5 q.1
               | exact h12 q.2
           exact ⟨_, rfl, (if_neg hc).symm, _, _, rfl, EqX.refl _, EqS.refl _⟩)
set_option maxRecDepth 100000 in
set_option maxHeartbeats 4000000 in
theorem c_X6_heatBehind (l : Launch) (G : GE) {ad : Nat → Nat} {M : WM} {O S : RW} {X : WM} {P : WM} {nT mm : Nat} (rp : RP P S nT mm) {x y : Int32} {t : Nat} (hx : IX x t nT) (hy : vp_in y 61) (hm : mm + 61 < 2 ^ 31) (hM : M = mkM O S X)  : CT l G yX6_heatBehind cX6_heatBehind 4 (some .int) 4 [.ref (ad 0), .int x, .int y] 14 ad (shM G ad) M (PI (fun r u => r = minsP (ix y) P t 5 t ∧ ∃ S' X', u = mkM O S' X' ∧ EqX X X' ∧ EqS S S')) := by
  refine CT.of (own := RX6) rfl rfl (le_b rfl) fun p e s m args below meth c A C0 hr => ?_
  refine AW.lo (ls2 := [(0, _), (1, _), (2, _)]) rfl ?_
  subst hM
  have hyl := vp_lt hy
  have ey := (IX.v hy).eq (by decide)
  refine a_aload_n C0 0 dX6_heatBehind_0 rfl rfl ?_
  refine g_X6_7 C0 (lt_b rfl) rfl rfl dX6_heatBehind_1 ?_
  refine a_aload_n C0 0 dX6_heatBehind_4 rfl rfl ?_
  refine g_X6_16 C0 (lt_b rfl) rfl rfl dX6_heatBehind_5 ?_
  refine a_callS _ 2 C0 em_MC13 (c_X6_copyRow l G (ad := fun k => ad (io2 1 1 3 k))) u_c_X6_copyRow u_m_X6_144 u_st_X6_copyRow u_in_X6 hy_X6_copyRow.2 (hRk rfl) rfl rfl (le_b rfl) dX6_heatBehind_8 (k_vo ?_)
  refine AW.cg (M := mkM O S (stX X 3 (cp63 S (X 3)))) (fun q _ => by match q with | 0 => rfl | 1 => rfl | q + 2 => rfl) ?_
  refine a_aload_n C0 0 dX6_heatBehind_11 rfl rfl ?_
  refine a_iload_n C0 2 dX6_heatBehind_12 rfl rfl ?_
  refine a_callV _ 1 C0 EM.refl (c_X6_goes l G rp ey (by omega) rfl) u_c_X6_goes u_m_X6_206 u_im_X6_goes u_se_X6_goes u_in_X6 hy_X6_goes rfl (lt_b rfl) rfl (hRk rfl) rfl rfl (le_b rfl) dX6_heatBehind_13 (k_v fun u13 q13 => ?_)
  obtain ⟨S3, rfl, rp3⟩ := q13
  refine a_aload_n C0 0 dX6_heatBehind_16 rfl rfl ?_
  refine a_iload_n C0 1 dX6_heatBehind_17 rfl rfl ?_
  refine a_iconst C0 1 dX6_heatBehind_18 rfl ?_
  refine a_callV _ 2 C0 EM.refl (c_X6_its l G (c := 5) rp3 hx ⟨vq rfl, rfl⟩ rfl rfl) u_c_X6_its u_m_X6_167 u_im_X6_its u_se_X6_its u_in_X6 hy_X6_its rfl (lt_b rfl) rfl (hRk rfl) rfl rfl (le_b rfl) dX6_heatBehind_19 (k_ro EM.refl ?_)
  refine a_istore_n (ls2 := [(3, _), (0, _), (1, _), (2, _)]) C0 dX6_heatBehind_22 rfl (lt_b rfl) rfl ?_
  refine a_aload_n C0 1 dX6_heatBehind_23 rfl rfl ?_
  refine g_X6_16 C0 (lt_b rfl) rfl rfl dX6_heatBehind_24 ?_
  refine a_aload_n C0 1 dX6_heatBehind_27 rfl rfl ?_
  refine g_X6_7 C0 (lt_b rfl) rfl rfl dX6_heatBehind_28 ?_
  refine a_callS _ 2 C0 em_MC31 (c_X6_copyRow l G (ad := fun k => ad (io2 3 1 1 k))) u_c_X6_copyRow u_m_X6_144 u_st_X6_copyRow u_in_X6 hy_X6_copyRow.2 (hRk rfl) rfl rfl (le_b rfl) dX6_heatBehind_31 (k_vo ?_)
  refine AW.cg (M := mkM O (cp63 ((stX X 3 (cp63 S (X 3))) 3) S3) (stX (stX X 3 (cp63 S (X 3))) 3 ((stX X 3 (cp63 S (X 3))) 3))) (fun q _ => by match q with | 0 => rfl | 1 => rfl | q + 2 => rfl) ?_
  refine a_iload_n C0 0 dX6_heatBehind_34 rfl rfl ?_
  refine a_iret C0 hr dX6_heatBehind_35 ?_
  exact ⟨_, rfl, ((Sm.refl _ P).passes hx.lt _).he, _, _, rfl, EqX.tr, EqS.back⟩
theorem up2_id {P : WM} {c i : Nat} : up2 P c i (P c i) = P := by
  funext a b
  unfold up2
  split
  · next h =>
    split
    · next h2 => rw [h, h2]
    · rfl
  · rfl
theorem EqS.rp {P : WM} {S Y : RW} {T mm : Nat} (h : EqS S Y) (r : RP P S T mm) : RP P Y T mm := r.eqS h

set_option maxRecDepth 100000 in
set_option maxHeartbeats 4000000 in
theorem c_X6_boxFor (l : Launch) (G : GE) {ad : Nat → Nat} {M : WM} {O S : RW} {X : WM} {P : WM} {nT mm : Nat} (rp : RP P S nT mm) {v y : Int32} (hm : mm + 61 < 2 ^ 31) (hM : M = mkM O S X)  : CT l G yX6_boxFor cX6_boxFor 7 (some .int) 5 [.ref (ad 0), .int v, .int y] 14 ad (shM G ad) M (PI (fun r u => r = (if (isTl P v ∧ (1 ≤ y ∧ y ≤ 30)) then (bxS P (minsP (ix y) (up2 P 0 7 (P 0 7)) (ix v) 5 (ix v)) (fun i => minsP (ix y) (up2 P 0 7 (P 0 7 ||| bitI i)) (ix v) 5 (ix v)) 8).1 else -1) ∧ ∃ S' X', u = mkM O S' X' ∧ EqX X X' ∧ EqS S S')) := by
  refine CT.of (own := RX6) rfl rfl (le_b rfl) fun p e s m args below meth c A C0 hr => ?_
  refine AW.lo (ls2 := [(0, _), (1, _), (2, _)]) rfl ?_
  subst hM
  have lp : ∀ (n : Nat) (i : Nat) (xi a b : Int32) (S1 : RW) (X1 : WM), 8 - i < n → (i ≤ 8) → (xi = nI i) → ((isTl P v ∧ (1 ≤ y ∧ y ≤ 30))) → (EqS S S1) → (EqX X X1) → ((a, b) = bxS P (minsP (ix y) (up2 P 0 7 (P 0 7)) (ix v) 5 (ix v)) (fun i => minsP (ix y) (up2 P 0 7 (P 0 7 ||| bitI i)) (ix v) 5 (ix v)) i) → AW p l e (rmk 5) s m args below meth c G A 14 ad (shM G ad) 7 0 0 (MQ below (CQ G 14 ad (shM G ad) A (PI (fun r u => r = (if (isTl P v ∧ (1 ≤ y ∧ y ≤ 30)) then (bxS P (minsP (ix y) (up2 P 0 7 (P 0 7)) (ix v) 5 (ix v)) (fun i => minsP (ix y) (up2 P 0 7 (P 0 7 ||| bitI i)) (ix v) 5 (ix v)) 8).1 else -1) ∧ ∃ S' X', u = mkM O S' X' ∧ EqX X X' ∧ EqS S S'))) args s 0 0 A) 31 [(0, .ref (ad 0)), (1, .int v), (2, .int y), (3, .int b), (4, .int a), (5, .int xi)] [] (mkM O S1 X1) := by
    intro n
    induction n with
    | zero =>
      intro i xi a b S1 X1 hn
      exact absurd hn (Nat.not_lt_zero _)
    | succ n ih =>
      intro i xi a b S1 X1 hn hi hxi hc hS1 hX1 hab
      have hv := (isTl_in rp.w).mp hc.1
      have hx : IX v (ix v) nT := IX.v hv
      refine a_iload C0 5 dX6_boxFor_31 rfl ?_
      refine a_bipush C0 8 dX6_boxFor_33 rfl ?_
      refine a_icmp_ge C0 109 dX6_boxFor_35 rfl (fun h35 => ?_) (fun h35 => ?_)
      · refine a_iload C0 4 dX6_boxFor_109 rfl ?_
        refine a_iret C0 hr dX6_boxFor_111 ?_
        have e : i = 8 := Nat.le_antisymm hi (i_ge (T := 8) hxi rfl (by omega) (by omega) h35)
        subst e
        exact ⟨_, rfl, by rw [if_pos hc, ← hab], _, _, rfl, hX1, hS1⟩
      · have hlt : i < 8 := i_lt (T := 8) hxi rfl (by omega) (by omega) h35
        have hb := ((IX.eqn hxi hlt (by decide)).pl 23 (bb := 23) rfl (by decide)).le (n2 := 63) (by decide)
        have e23 : mkM O S1 X1 1 (23 + i) = (P 0 7 >>> (nI i &&& 31)) &&& 1 := (hS1 _ (by omega)).trans (rp.bx i hlt)
        refine a_aload_n C0 0 dX6_boxFor_38 rfl rfl ?_
        refine g_X6_7 C0 (lt_b rfl) rfl rfl dX6_boxFor_39 ?_
        refine a_bipush C0 23 dX6_boxFor_42 rfl ?_
        refine a_iload C0 5 dX6_boxFor_44 rfl ?_
        refine a_iadd C0 dX6_boxFor_46 ?_
        refine a_iald C0 _ (lt_b rfl) rfl hb.1 hb.2 dX6_boxFor_47 ?_
        refine a_if_ne C0 103 dX6_boxFor_48 rfl (fun h48 => ?_) (fun h48 => ?_)
        · refine a_iinc (ls2 := [(5, _), (0, _), (1, _), (2, _), (3, _), (4, _)]) C0 5 1 dX6_boxFor_103 rfl rfl (lt_b rfl) rfl ?_
          refine a_goto C0 31 dX6_boxFor_106 rfl ?_
          refine AW.sub (ls2 := [(0, _), (1, _), (2, _), (3, _), (4, _), (5, _)]) [1, 2, 3, 4, 5, 0] rfl ?_
          first
            | (have hbx : boxP P (nI i) := by
                 have q := h48
                 rw [e23] at q
                 exact (bit_01 rp.bxw (vp_in_nI hlt (by decide))).resolve_left q
               exact ih (i + 1) _ _ _ _ _ (by omega) hlt (by rw [hxi, nI_1]) hc hS1 hX1 (by
                 show _ = if boxP P (nI i) then bxS P (minsP (ix y) (up2 P 0 7 (P 0 7)) (ix v) 5 (ix v)) (fun i => minsP (ix y) (up2 P 0 7 (P 0 7 ||| bitI i)) (ix v) 5 (ix v)) i else _
                 rw [if_pos hbx]
                 exact hab))
            | exact ih (i + 1) _ _ _ _ _ (by omega) hlt (by rw [hxi, nI_1]) hc (fun k hk => by
                by_cases e : k = 23 + i
                · rw [e, up_eq, ← h48, e23, rp.bx i hlt]
                · rw [up_ne e, hS3 k hk, up_ne e, hS1 k hk]) (hX1.trans hX3) (by
                show _ = if boxP P (nI i) then bxS P (minsP (ix y) (up2 P 0 7 (P 0 7)) (ix v) 5 (ix v)) (fun i => minsP (ix y) (up2 P 0 7 (P 0 7 ||| bitI i)) (ix v) 5 (ix v)) i else if (bxS P (minsP (ix y) (up2 P 0 7 (P 0 7)) (ix v) 5 (ix v)) (fun i => minsP (ix y) (up2 P 0 7 (P 0 7 ||| bitI i)) (ix v) 5 (ix v)) i).2 < (fun i => minsP (ix y) (up2 P 0 7 (P 0 7 ||| bitI i)) (ix v) 5 (ix v)) i then (nI i, (fun i => minsP (ix y) (up2 P 0 7 (P 0 7 ||| bitI i)) (ix v) 5 (ix v)) i) else bxS P (minsP (ix y) (up2 P 0 7 (P 0 7)) (ix v) 5 (ix v)) (fun i => minsP (ix y) (up2 P 0 7 (P 0 7 ||| bitI i)) (ix v) 5 (ix v)) i
                rw [if_neg hbx, ← hab]
                first
                  | rw [if_pos (Int32.not_le.mp h84), gr_yes (Int32.not_le.mp h84), hxi]
                  | rw [if_neg (Int32.not_lt.mpr h84), gr_no (Int32.not_lt.mpr h84)])
        · refine a_aload_n C0 0 dX6_boxFor_51 rfl rfl ?_
          refine g_X6_7 C0 (lt_b rfl) rfl rfl dX6_boxFor_52 ?_
          refine a_bipush C0 23 dX6_boxFor_55 rfl ?_
          refine a_iload C0 5 dX6_boxFor_57 rfl ?_
          refine a_iadd C0 dX6_boxFor_59 ?_
          refine a_iconst C0 1 dX6_boxFor_60 rfl ?_
          refine a_iast C0 _ (lt_b rfl) (fun _ => rfl) hb.1 hb.2 dX6_boxFor_61 ?_
          rw [mkM_S]
          have hbx : ¬ boxP P (nI i) := by
            rw [e23] at h48
            intro z
            exact absurd (h48.symm.trans z) (by decide)
          have hon := bx_on (q := i) rp.bxw hlt
          have rpi : RP (up2 P 0 7 (P 0 7 ||| bitI i)) (upS S1 (23 + i) 1) nT mm := (hS1.rp rp).bx' hlt hon.1 hon.2
          refine a_aload_n C0 0 dX6_boxFor_62 rfl rfl ?_
          refine a_iload_n C0 1 dX6_boxFor_63 rfl rfl ?_
          refine a_iload_n C0 2 dX6_boxFor_64 rfl rfl ?_
          refine a_callV _ 2 C0 EM.refl (c_X6_heatBehind l G rpi hx (vp_le (in_of (n := 30) (by decide) ⟨Int32.le_trans (by decide) hc.2.1, hc.2.2⟩) (by decide)) hm rfl) u_c_X6_heatBehind u_m_X6_250 u_im_X6_heatBehind u_se_X6_heatBehind u_in_X6 hy_X6_heatBehind rfl (lt_b rfl) rfl (hRk rfl) rfl rfl (le_b rfl) dX6_boxFor_65 (k_i fun r65 u65 q65 => ?_)
          obtain ⟨rfl, S3, X3, rfl, hX3, hS3⟩ := q65
          refine a_istore (ls2 := [(6, _), (0, _), (1, _), (2, _), (3, _), (4, _), (5, _)]) C0 dX6_boxFor_68 (lt_b rfl) rfl ?_
          refine a_aload_n C0 1 dX6_boxFor_70 rfl rfl ?_
          refine g_X6_7 C0 (lt_b rfl) rfl rfl dX6_boxFor_71 ?_
          refine a_bipush C0 23 dX6_boxFor_74 rfl ?_
          refine a_iload C0 6 dX6_boxFor_76 rfl ?_
          refine a_iadd C0 dX6_boxFor_78 ?_
          refine a_iconst C0 0 dX6_boxFor_79 rfl ?_
          refine a_iast C0 _ (lt_b rfl) (fun _ => rfl) hb.1 hb.2 dX6_boxFor_80 ?_
          rw [mkM_S]
          refine a_iload C0 0 dX6_boxFor_81 rfl ?_
          refine a_iload_n C0 4 dX6_boxFor_83 rfl rfl ?_
          refine a_icmp_le C0 92 dX6_boxFor_84 rfl (fun h84 => ?_) (fun h84 => ?_)
          · refine a_iload C0 5 dX6_boxFor_92 rfl ?_
            refine a_istore (ls2 := [(4, _), (6, _), (0, _), (1, _), (2, _), (3, _), (5, _)]) C0 dX6_boxFor_94 (lt_b rfl) rfl ?_
            refine a_iload_n C0 5 dX6_boxFor_96 rfl rfl ?_
            refine a_iload C0 1 dX6_boxFor_97 rfl ?_
            refine a_callS _ 2 C0 EM.z (c_X6_greatest l G) u_c_X6_greatest u_m_X6_240 u_st_X6_greatest u_in_X6 hy_X6_greatest.2 (hRk rfl) rfl rfl (le_b rfl) dX6_boxFor_99 (k_ro EM.z ?_)
            refine a_istore_n (ls2 := [(3, _), (4, _), (6, _), (0, _), (1, _), (2, _), (5, _)]) C0 dX6_boxFor_102 rfl (lt_b rfl) rfl ?_
            refine a_iinc (ls2 := [(5, _), (3, _), (4, _), (6, _), (0, _), (1, _), (2, _)]) C0 6 1 dX6_boxFor_103 rfl rfl (lt_b rfl) rfl ?_
            refine a_goto C0 31 dX6_boxFor_106 rfl ?_
            refine AW.sub (ls2 := [(0, _), (1, _), (2, _), (3, _), (4, _), (5, _)]) [4, 5, 6, 1, 2, 0] rfl ?_
            first
              | (have hbx : boxP P (nI i) := by
                   have q := h48
                   rw [e23] at q
                   exact (bit_01 rp.bxw (vp_in_nI hlt (by decide))).resolve_left q
                 exact ih (i + 1) _ _ _ _ _ (by omega) hlt (by rw [hxi, nI_1]) hc hS1 hX1 (by
                   show _ = if boxP P (nI i) then bxS P (minsP (ix y) (up2 P 0 7 (P 0 7)) (ix v) 5 (ix v)) (fun i => minsP (ix y) (up2 P 0 7 (P 0 7 ||| bitI i)) (ix v) 5 (ix v)) i else _
                   rw [if_pos hbx]
                   exact hab))
              | exact ih (i + 1) _ _ _ _ _ (by omega) hlt (by rw [hxi, nI_1]) hc (fun k hk => by
                  by_cases e : k = 23 + i
                  · rw [e, up_eq, ← h48, e23, rp.bx i hlt]
                  · rw [up_ne e, hS3 k hk, up_ne e, hS1 k hk]) (hX1.trans hX3) (by
                  show _ = if boxP P (nI i) then bxS P (minsP (ix y) (up2 P 0 7 (P 0 7)) (ix v) 5 (ix v)) (fun i => minsP (ix y) (up2 P 0 7 (P 0 7 ||| bitI i)) (ix v) 5 (ix v)) i else if (bxS P (minsP (ix y) (up2 P 0 7 (P 0 7)) (ix v) 5 (ix v)) (fun i => minsP (ix y) (up2 P 0 7 (P 0 7 ||| bitI i)) (ix v) 5 (ix v)) i).2 < (fun i => minsP (ix y) (up2 P 0 7 (P 0 7 ||| bitI i)) (ix v) 5 (ix v)) i then (nI i, (fun i => minsP (ix y) (up2 P 0 7 (P 0 7 ||| bitI i)) (ix v) 5 (ix v)) i) else bxS P (minsP (ix y) (up2 P 0 7 (P 0 7)) (ix v) 5 (ix v)) (fun i => minsP (ix y) (up2 P 0 7 (P 0 7 ||| bitI i)) (ix v) 5 (ix v)) i
                  rw [if_neg hbx, ← hab]
                  first
                    | rw [if_pos (Int32.not_le.mp h84), gr_yes (Int32.not_le.mp h84), hxi]
                    | rw [if_neg (Int32.not_lt.mpr h84), gr_no (Int32.not_lt.mpr h84)])
          · refine a_iload C0 6 dX6_boxFor_87 rfl ?_
            refine a_goto C0 94 dX6_boxFor_89 rfl ?_
            refine a_istore (ls2 := [(4, _), (6, _), (0, _), (1, _), (2, _), (3, _), (5, _)]) C0 dX6_boxFor_94 (lt_b rfl) rfl ?_
            refine a_iload_n C0 5 dX6_boxFor_96 rfl rfl ?_
            refine a_iload C0 1 dX6_boxFor_97 rfl ?_
            refine a_callS _ 2 C0 EM.z (c_X6_greatest l G) u_c_X6_greatest u_m_X6_240 u_st_X6_greatest u_in_X6 hy_X6_greatest.2 (hRk rfl) rfl rfl (le_b rfl) dX6_boxFor_99 (k_ro EM.z ?_)
            refine a_istore_n (ls2 := [(3, _), (4, _), (6, _), (0, _), (1, _), (2, _), (5, _)]) C0 dX6_boxFor_102 rfl (lt_b rfl) rfl ?_
            refine a_iinc (ls2 := [(5, _), (3, _), (4, _), (6, _), (0, _), (1, _), (2, _)]) C0 6 1 dX6_boxFor_103 rfl rfl (lt_b rfl) rfl ?_
            refine a_goto C0 31 dX6_boxFor_106 rfl ?_
            refine AW.sub (ls2 := [(0, _), (1, _), (2, _), (3, _), (4, _), (5, _)]) [4, 5, 6, 1, 2, 0] rfl ?_
            first
              | (have hbx : boxP P (nI i) := by
                   have q := h48
                   rw [e23] at q
                   exact (bit_01 rp.bxw (vp_in_nI hlt (by decide))).resolve_left q
                 exact ih (i + 1) _ _ _ _ _ (by omega) hlt (by rw [hxi, nI_1]) hc hS1 hX1 (by
                   show _ = if boxP P (nI i) then bxS P (minsP (ix y) (up2 P 0 7 (P 0 7)) (ix v) 5 (ix v)) (fun i => minsP (ix y) (up2 P 0 7 (P 0 7 ||| bitI i)) (ix v) 5 (ix v)) i else _
                   rw [if_pos hbx]
                   exact hab))
              | exact ih (i + 1) _ _ _ _ _ (by omega) hlt (by rw [hxi, nI_1]) hc (fun k hk => by
                  by_cases e : k = 23 + i
                  · rw [e, up_eq, ← h48, e23, rp.bx i hlt]
                  · rw [up_ne e, hS3 k hk, up_ne e, hS1 k hk]) (hX1.trans hX3) (by
                  show _ = if boxP P (nI i) then bxS P (minsP (ix y) (up2 P 0 7 (P 0 7)) (ix v) 5 (ix v)) (fun i => minsP (ix y) (up2 P 0 7 (P 0 7 ||| bitI i)) (ix v) 5 (ix v)) i else if (bxS P (minsP (ix y) (up2 P 0 7 (P 0 7)) (ix v) 5 (ix v)) (fun i => minsP (ix y) (up2 P 0 7 (P 0 7 ||| bitI i)) (ix v) 5 (ix v)) i).2 < (fun i => minsP (ix y) (up2 P 0 7 (P 0 7 ||| bitI i)) (ix v) 5 (ix v)) i then (nI i, (fun i => minsP (ix y) (up2 P 0 7 (P 0 7 ||| bitI i)) (ix v) 5 (ix v)) i) else bxS P (minsP (ix y) (up2 P 0 7 (P 0 7)) (ix v) 5 (ix v)) (fun i => minsP (ix y) (up2 P 0 7 (P 0 7 ||| bitI i)) (ix v) 5 (ix v)) i
                  rw [if_neg hbx, ← hab]
                  first
                    | rw [if_pos (Int32.not_le.mp h84), gr_yes (Int32.not_le.mp h84), hxi]
                    | rw [if_neg (Int32.not_lt.mpr h84), gr_no (Int32.not_lt.mpr h84)])
  refine a_aload_n C0 0 dX6_boxFor_0 rfl rfl ?_
  refine a_iload_n C0 1 dX6_boxFor_1 rfl rfl ?_
  refine a_callV _ 1 C0 EM.refl (c_X6_isOne l G rp  rfl) u_c_X6_isOne u_m_X6_173 u_im_X6_isOne u_se_X6_isOne u_in_X6 hy_X6_isOne rfl (lt_b rfl) rfl (hRk rfl) rfl rfl (le_b rfl) dX6_boxFor_2 (k_ro EM.refl ?_)
  refine a_if_eqb C0 15 dX6_boxFor_5 rfl (fun h5 => ?_) (fun h5 => ?_)
  · refine a_iconst C0 (-1) dX6_boxFor_15 rfl ?_
    refine a_iret C0 hr dX6_boxFor_16 ?_
    have hc : ¬ (isTl P v ∧ (1 ≤ y ∧ y ≤ 30)) := fun q => by
      first
        | exact h5 q.1
        | exact h12 q.2
    exact ⟨_, rfl, (if_neg hc).symm, _, _, rfl, EqX.refl _, EqS.refl _⟩
  · refine a_iload_n C0 2 dX6_boxFor_8 rfl rfl ?_
    refine a_callS _ 1 C0 EM.z (c_X6_isShort l G) u_c_X6_isShort u_m_X6_243 u_st_X6_isShort u_in_X6 hy_X6_isShort.2 (hRk rfl) rfl rfl (le_b rfl) dX6_boxFor_9 (k_ro EM.z ?_)
    refine a_if_neb C0 17 dX6_boxFor_12 rfl (fun h12 => ?_) (fun h12 => ?_)
    · have hv := (isTl_in rp.w).mp h5
      have hx : IX v (ix v) nT := IX.v hv
      refine a_aload_n C0 0 dX6_boxFor_17 rfl rfl ?_
      refine a_iload_n C0 1 dX6_boxFor_18 rfl rfl ?_
      refine a_iload_n C0 2 dX6_boxFor_19 rfl rfl ?_
      refine a_callV _ 2 C0 EM.refl (c_X6_heatBehind l G rp hx (vp_le (in_of (n := 30) (by decide) ⟨Int32.le_trans (by decide) h12.1, h12.2⟩) (by decide)) hm rfl) u_c_X6_heatBehind u_m_X6_250 u_im_X6_heatBehind u_se_X6_heatBehind u_in_X6 hy_X6_heatBehind rfl (lt_b rfl) rfl (hRk rfl) rfl rfl (le_b rfl) dX6_boxFor_20 (k_i fun r20 u20 q20 => ?_)
      obtain ⟨rfl, S0, X0, rfl, hX0, hS0⟩ := q20
      refine a_istore_n (ls2 := [(3, _), (0, _), (1, _), (2, _)]) C0 dX6_boxFor_23 rfl (lt_b rfl) rfl ?_
      refine a_bipush C0 (-3) dX6_boxFor_24 rfl ?_
      refine a_istore (ls2 := [(4, _), (3, _), (0, _), (1, _), (2, _)]) C0 dX6_boxFor_26 (lt_b rfl) rfl ?_
      refine a_iconst C0 0 dX6_boxFor_28 rfl ?_
      refine a_istore (ls2 := [(5, _), (4, _), (3, _), (0, _), (1, _), (2, _)]) C0 dX6_boxFor_29 (lt_b rfl) rfl ?_
      refine AW.sub (ls2 := [(0, _), (1, _), (2, _), (3, _), (4, _), (5, _)]) [3, 4, 5, 2, 1, 0] rfl ?_
      exact lp 9 0 _ _ _ _ _ (by omega) (Nat.zero_le _) rfl ⟨h5, h12⟩ hS0 hX0 (by rw [up2_id]; rfl)
    · refine a_iconst C0 (-1) dX6_boxFor_15 rfl ?_
      refine a_iret C0 hr dX6_boxFor_16 ?_
      have hc : ¬ (isTl P v ∧ (1 ≤ y ∧ y ≤ 30)) := fun q => by
        first
          | exact h5 q.1
          | exact h12 q.2
      exact ⟨_, rfl, (if_neg hc).symm, _, _, rfl, EqX.refl _, EqS.refl _⟩
