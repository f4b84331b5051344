set_option maxRecDepth 100000 in
set_option maxHeartbeats 4000000 in
theorem c_X6_heatFor (l : Launch) (G : GE) {ad : Nat → Nat} {M : WM} {O S : RW} {X : WM} {P : WM} {nT mm : Nat} (rp : RP P S nT mm) {v h y : Int32} (hm : mm + 61 < 2 ^ 31) (hM : M = mkM O S X)  : CT l G yX6_heatFor cX6_heatFor 8 (some .int) 4 [.ref (ad 0), .int v, .int h, .int y] 14 ad (shM G ad) M (PI (fun r u => r = (if (isTl P v ∧ isHo h ∧ (0 ≤ y ∧ y ≤ 30)) then hfS (fun i => huS (ix y + 1) (up2 P 5 (ix v) (nI i)) (ix v) (1 <<< (h &&& 31)) 0) 100 0 else -1) ∧ ∃ S' X', u = mkM O S' X' ∧ EqX X X' ∧ EqS S S')) := by
  refine CT.of (own := RX6) rfl rfl (le_b rfl) fun p e s m args below meth c A C0 hr => ?_
  refine AW.lo (ls2 := [(0, _), (1, _), (2, _), (3, _)]) rfl ?_
  subst hM
  have lp : ∀ (n : Nat) (i : Nat) (xi b : Int32) (S1 : RW) (X1 : WM), 100 - i < n → (i ≤ 100) → (xi = nI i) → ((isTl P v ∧ isHo h ∧ (0 ≤ y ∧ y ≤ 30))) → (∀ k, k < 63 → k ≠ 31 + 4 * ix v + 1 → S1 k = S k) → (EqX X X1) → ((b = -3 ∧ hfS (fun i => huS (ix y + 1) (up2 P 5 (ix v) (nI i)) (ix v) (1 <<< (h &&& 31)) 0) (100 - i) i = hfS (fun i => huS (ix y + 1) (up2 P 5 (ix v) (nI i)) (ix v) (1 <<< (h &&& 31)) 0) 100 0) ∨ (¬ b < 0 ∧ hfS (fun i => huS (ix y + 1) (up2 P 5 (ix v) (nI i)) (ix v) (1 <<< (h &&& 31)) 0) 100 0 = b)) → AW p l e (rmk 4) s m args below meth c G A 14 ad (shM G ad) 8 0 0 (MQ below (CQ G 14 ad (shM G ad) A (PI (fun r u => r = (if (isTl P v ∧ isHo h ∧ (0 ≤ y ∧ y ≤ 30)) then hfS (fun i => huS (ix y + 1) (up2 P 5 (ix v) (nI i)) (ix v) (1 <<< (h &&& 31)) 0) 100 0 else -1) ∧ ∃ S' X', u = mkM O S' X' ∧ EqX X X' ∧ EqS S S'))) args s 0 0 A) 55 [(0, .ref (ad 0)), (1, .int v), (2, .int h), (3, .int y), (4, .int (31 + 4 * v + 1)), (5, .int (S (31 + 4 * ix v + 1))), (6, .int b), (7, .int xi)] [] (mkM O S1 X1) := by
    intro n
    induction n with
    | zero =>
      intro i xi b S1 X1 hn
      exact absurd hn (Nat.not_lt_zero _)
    | succ n ih =>
      intro i xi b S1 X1 hn hi hxi hc hS1 hX1 hb
      have hv := (isTl_in rp.w).mp hc.1
      have hx : IX v (ix v) nT := IX.v hv
      have hz := pl_ (k := 1) (j := 1) (hx.le rp.t8) ⟨vq rfl, rfl⟩
      have hy := in_of (n := 30) (by decide) hc.2.2
      have hyl := vp_lt hy
      have ey := (IX.v hy).eq (by decide)
      refine a_iload C0 7 dX6_heatFor_55 rfl ?_
      refine a_bipush C0 99 dX6_heatFor_57 rfl ?_
      refine a_icmp_gt C0 104 dX6_heatFor_59 rfl (fun h59 => ?_) (fun h59 => ?_)
      · refine a_aload_n C0 0 dX6_heatFor_104 rfl rfl ?_
        refine g_X6_7 C0 (lt_b rfl) rfl rfl dX6_heatFor_105 ?_
        refine a_iload C0 4 dX6_heatFor_108 rfl ?_
        refine a_iload C0 5 dX6_heatFor_110 rfl ?_
        refine a_iast C0 _ (lt_b rfl) (fun _ => rfl) hz.1 hz.2 dX6_heatFor_112 ?_
        refine a_iload C0 6 dX6_heatFor_113 rfl ?_
        refine a_iret C0 hr dX6_heatFor_115 ?_
        rw [mkM_S]
        refine ⟨_, rfl, ?_, _, _, rfl, hX1, fun k hk => ?_⟩
        · rw [if_pos hc]
          rcases hb with ⟨b0, q⟩ | ⟨b1, q⟩
          · first
              | (have hge : 99 < i := by
                   rw [hxi] at h59
                   exact (nI_ltI (a := 99) (by decide) (by omega)).mp h59
                 rw [← q, b0, show 100 - i = 0 by omega]
                 rfl)
              | (exfalso
                 rw [b0] at h64
                 exact absurd h64 (by decide))
          · exact q.symm
        · by_cases e : k = 31 + 4 * ix v + 1
          · rw [e, up_eq]
          · rw [up_ne e, hS1 k hk e]
      · have hle : i ≤ 99 := Nat.not_lt.mp fun z => h59 (by rw [hxi]; exact nI_lt (a := 99) z (by omega))
        refine a_iload C0 6 dX6_heatFor_62 rfl ?_
        refine a_if_ge C0 104 dX6_heatFor_64 rfl (fun h64 => ?_) (fun h64 => ?_)
        · refine a_aload_n C0 0 dX6_heatFor_104 rfl rfl ?_
          refine g_X6_7 C0 (lt_b rfl) rfl rfl dX6_heatFor_105 ?_
          refine a_iload C0 4 dX6_heatFor_108 rfl ?_
          refine a_iload C0 5 dX6_heatFor_110 rfl ?_
          refine a_iast C0 _ (lt_b rfl) (fun _ => rfl) hz.1 hz.2 dX6_heatFor_112 ?_
          refine a_iload C0 6 dX6_heatFor_113 rfl ?_
          refine a_iret C0 hr dX6_heatFor_115 ?_
          rw [mkM_S]
          refine ⟨_, rfl, ?_, _, _, rfl, hX1, fun k hk => ?_⟩
          · rw [if_pos hc]
            rcases hb with ⟨b0, q⟩ | ⟨b1, q⟩
            · first
                | (have hge : 99 < i := by
                     rw [hxi] at h59
                     exact (nI_ltI (a := 99) (by decide) (by omega)).mp h59
                   rw [← q, b0, show 100 - i = 0 by omega]
                   rfl)
                | (exfalso
                   rw [b0] at h64
                   exact absurd h64 (by decide))
            · exact q.symm
          · by_cases e : k = 31 + 4 * ix v + 1
            · rw [e, up_eq]
            · rw [up_ne e, hS1 k hk e]
        · have h64n : ¬ ¬ b < 0 := fun q => h64 (Int32.not_lt.mp q)
          refine a_aload_n C0 0 dX6_heatFor_67 rfl rfl ?_
          refine g_X6_7 C0 (lt_b rfl) rfl rfl dX6_heatFor_68 ?_
          refine a_iload C0 4 dX6_heatFor_71 rfl ?_
          refine a_iload C0 7 dX6_heatFor_73 rfl ?_
          refine a_iast C0 _ (lt_b rfl) (fun _ => rfl) hz.1 hz.2 dX6_heatFor_75 ?_
          rw [mkM_S]
          have rpi : RP (up2 P 5 (ix v) xi) (upS S1 (31 + 4 * ix v + 1) xi) nT mm := (rp.heat (v := xi) (vp_lt hv) (by rw [hxi]; exact vp_in_nI (by omega) (by decide))).eqS fun k hk => by
            by_cases e : k = 31 + 4 * ix v + 1
            · rw [e, up_eq, up_eq]
            · rw [up_ne e, up_ne e, hS1 k hk e]
          refine a_aload_n C0 0 dX6_heatFor_76 rfl rfl ?_
          refine a_iload_n C0 1 dX6_heatFor_77 rfl rfl ?_
          refine a_iconst C0 1 dX6_heatFor_78 rfl ?_
          refine a_iload_n C0 2 dX6_heatFor_79 rfl rfl ?_
          refine a_ishl C0 dX6_heatFor_80 ?_
          refine a_iload_n C0 3 dX6_heatFor_81 rfl rfl ?_
          refine a_callV _ 3 C0 EM.refl (c_X6_heardBy l G (yn := ix y) rpi hx ey (by omega) hm rfl) u_c_X6_heardBy u_m_X6_233 u_im_X6_heardBy u_se_X6_heardBy u_in_X6 hy_X6_heardBy rfl (lt_b rfl) rfl (hRk rfl) rfl rfl (le_b rfl) dX6_heatFor_82 (k_i fun r82 u82 q82 => ?_)
          obtain ⟨rfl, S3, X3, rfl, hX3, hS3⟩ := q82
          refine a_iload_n C0 3 dX6_heatFor_85 rfl rfl ?_
          refine a_icmp_gt C0 94 dX6_heatFor_86 rfl (fun h86 => ?_) (fun h86 => ?_)
          · refine a_bipush C0 (-3) dX6_heatFor_94 rfl ?_
            refine a_istore (ls2 := [(6, _), (0, _), (1, _), (2, _), (3, _), (4, _), (5, _), (7, _)]) C0 dX6_heatFor_96 (lt_b rfl) rfl ?_
            refine a_iinc (ls2 := [(7, _), (6, _), (0, _), (1, _), (2, _), (3, _), (4, _), (5, _)]) C0 7 1 dX6_heatFor_98 rfl rfl (lt_b rfl) rfl ?_
            refine a_goto C0 55 dX6_heatFor_101 rfl ?_
            refine AW.sub (ls2 := [(0, _), (1, _), (2, _), (3, _), (4, _), (5, _), (6, _), (7, _)]) [2, 3, 4, 5, 6, 7, 1, 0] rfl ?_
            have hf := (hb.resolve_right fun q => h64n q.1).2
            have hcc := hu_c (t := ix v) (q := 1 <<< (h &&& 31)) (P := up2 P 5 (ix v) xi) (ix y) (by omega)
            have h86b : (nI (ix y) < _) = (y < _) := congrArg (fun q => q < (if huS (ix y + 1) (up2 P 5 (ix v) xi) (ix v) (1 <<< (h &&& 31)) 0 = -3 then nI (ix y + 1) else huS (ix y + 1) (up2 P 5 (ix v) xi) (ix v) (1 <<< (h &&& 31)) 0)) ey.symm
            rw [h86b] at hcc
            exact ih (i + 1) _ _ _ _ (by omega) (by omega) (by rw [hxi, nI_1]) hc (fun k hk hkq => (hS3 k hk).trans ((up_ne hkq).trans (hS1 k hk hkq))) (hX1.trans hX3) (by
              rw [← hf, show 100 - i = (100 - (i + 1)) + 1 by omega]
              show _ ∨ _ ∧ (if (fun i => huS (ix y + 1) (up2 P 5 (ix v) (nI i)) (ix v) (1 <<< (h &&& 31)) 0) i = -3 then hfS (fun i => huS (ix y + 1) (up2 P 5 (ix v) (nI i)) (ix v) (1 <<< (h &&& 31)) 0) (100 - (i + 1)) (i + 1) else nI i) = _
              first
                | (have q : (fun i => huS (ix y + 1) (up2 P 5 (ix v) (nI i)) (ix v) (1 <<< (h &&& 31)) 0) i = -3 := by
                     show huS (ix y + 1) (up2 P 5 (ix v) (nI i)) (ix v) (1 <<< (h &&& 31)) 0 = -3
                     rw [← hxi]
                     exact hcc.1 h86
                   refine Or.inl ⟨rfl, ?_⟩
                   exact (if_pos q).symm)
                | (have q : ¬ (fun i => huS (ix y + 1) (up2 P 5 (ix v) (nI i)) (ix v) (1 <<< (h &&& 31)) 0) i = -3 := by
                     show ¬ huS (ix y + 1) (up2 P 5 (ix v) (nI i)) (ix v) (1 <<< (h &&& 31)) 0 = -3
                     rw [← hxi]
                     exact (hcc.2 h86).1
                   refine Or.inr ⟨?_, ?_⟩
                   · rw [hxi]
                     exact Int32.not_lt.mpr (nI_le (a := 0) (Nat.zero_le _) (by omega))
                   · rw [if_neg q, hxi]))
          · refine a_iload C0 7 dX6_heatFor_89 rfl ?_
            refine a_goto C0 96 dX6_heatFor_91 rfl ?_
            refine a_istore (ls2 := [(6, _), (0, _), (1, _), (2, _), (3, _), (4, _), (5, _), (7, _)]) C0 dX6_heatFor_96 (lt_b rfl) rfl ?_
            refine a_iinc (ls2 := [(7, _), (6, _), (0, _), (1, _), (2, _), (3, _), (4, _), (5, _)]) C0 7 1 dX6_heatFor_98 rfl rfl (lt_b rfl) rfl ?_
            refine a_goto C0 55 dX6_heatFor_101 rfl ?_
            refine AW.sub (ls2 := [(0, _), (1, _), (2, _), (3, _), (4, _), (5, _), (6, _), (7, _)]) [2, 3, 4, 5, 6, 7, 1, 0] rfl ?_
            have hf := (hb.resolve_right fun q => h64n q.1).2
            have hcc := hu_c (t := ix v) (q := 1 <<< (h &&& 31)) (P := up2 P 5 (ix v) xi) (ix y) (by omega)
            have h86b : (nI (ix y) < _) = (y < _) := congrArg (fun q => q < (if huS (ix y + 1) (up2 P 5 (ix v) xi) (ix v) (1 <<< (h &&& 31)) 0 = -3 then nI (ix y + 1) else huS (ix y + 1) (up2 P 5 (ix v) xi) (ix v) (1 <<< (h &&& 31)) 0)) ey.symm
            rw [h86b] at hcc
            exact ih (i + 1) _ _ _ _ (by omega) (by omega) (by rw [hxi, nI_1]) hc (fun k hk hkq => (hS3 k hk).trans ((up_ne hkq).trans (hS1 k hk hkq))) (hX1.trans hX3) (by
              rw [← hf, show 100 - i = (100 - (i + 1)) + 1 by omega]
              show _ ∨ _ ∧ (if (fun i => huS (ix y + 1) (up2 P 5 (ix v) (nI i)) (ix v) (1 <<< (h &&& 31)) 0) i = -3 then hfS (fun i => huS (ix y + 1) (up2 P 5 (ix v) (nI i)) (ix v) (1 <<< (h &&& 31)) 0) (100 - (i + 1)) (i + 1) else nI i) = _
              first
                | (have q : (fun i => huS (ix y + 1) (up2 P 5 (ix v) (nI i)) (ix v) (1 <<< (h &&& 31)) 0) i = -3 := by
                     show huS (ix y + 1) (up2 P 5 (ix v) (nI i)) (ix v) (1 <<< (h &&& 31)) 0 = -3
                     rw [← hxi]
                     exact hcc.1 h86
                   refine Or.inl ⟨rfl, ?_⟩
                   exact (if_pos q).symm)
                | (have q : ¬ (fun i => huS (ix y + 1) (up2 P 5 (ix v) (nI i)) (ix v) (1 <<< (h &&& 31)) 0) i = -3 := by
                     show ¬ huS (ix y + 1) (up2 P 5 (ix v) (nI i)) (ix v) (1 <<< (h &&& 31)) 0 = -3
                     rw [← hxi]
                     exact (hcc.2 h86).1
                   refine Or.inr ⟨?_, ?_⟩
                   · rw [hxi]
                     exact Int32.not_lt.mpr (nI_le (a := 0) (Nat.zero_le _) (by omega))
                   · rw [if_neg q, hxi]))
  refine a_aload_n C0 0 dX6_heatFor_0 rfl rfl ?_
  refine a_iload_n C0 1 dX6_heatFor_1 rfl rfl ?_
  refine a_callV _ 1 C0 EM.refl (c_X6_isOne l G rp  rfl) u_c_X6_isOne u_m_X6_173 u_im_X6_isOne u_se_X6_isOne u_in_X6 hy_X6_isOne rfl (lt_b rfl) rfl (hRk rfl) rfl rfl (le_b rfl) dX6_heatFor_2 (k_ro EM.refl ?_)
  refine a_if_eqb C0 27 dX6_heatFor_5 rfl (fun h5 => ?_) (fun h5 => ?_)
  · refine a_iconst C0 (-1) dX6_heatFor_27 rfl ?_
    refine a_iret C0 hr dX6_heatFor_28 ?_
    have hc : ¬ (isTl P v ∧ isHo h ∧ (0 ≤ y ∧ y ≤ 30)) := fun q => by
      first
        | exact h5 q.1
        | exact h12 q.2.1
        | exact h24 q.2.2
    exact ⟨_, rfl, (if_neg hc).symm, _, _, rfl, EqX.refl _, EqS.refl _⟩
  · refine a_iload_n C0 2 dX6_heatFor_8 rfl rfl ?_
    refine a_callS _ 1 C0 EM.z (c_X6_isHouse l G) u_c_X6_isHouse u_m_X6_164 u_st_X6_isHouse u_in_X6 hy_X6_isHouse.2 (hRk rfl) rfl rfl (le_b rfl) dX6_heatFor_9 (k_ro EM.z ?_)
    refine a_if_eqb C0 27 dX6_heatFor_12 rfl (fun h12 => ?_) (fun h12 => ?_)
    · refine a_iconst C0 (-1) dX6_heatFor_27 rfl ?_
      refine a_iret C0 hr dX6_heatFor_28 ?_
      have hc : ¬ (isTl P v ∧ isHo h ∧ (0 ≤ y ∧ y ≤ 30)) := fun q => by
        first
          | exact h5 q.1
          | exact h12 q.2.1
          | exact h24 q.2.2
      exact ⟨_, rfl, (if_neg hc).symm, _, _, rfl, EqX.refl _, EqS.refl _⟩
    · refine a_iload_n C0 3 dX6_heatFor_15 rfl rfl ?_
      refine a_i2l C0 dX6_heatFor_16 ?_
      refine a_lconst C0 0 dX6_heatFor_17 rfl ?_
      refine a_ldc2 C0 dX6_heatFor_18 u_k_X6_216 ?_
      refine a_callS _ 3 C0 EM.z (c_X6_isIn l G (w2 := 0) (w3 := 30) rfl rfl rfl) u_c_X6_isIn u_m_X6_54 u_st_X6_isIn u_in_X6 hy_X6_isIn.2 (hRk rfl) rfl rfl (le_b rfl) dX6_heatFor_21 (k_ro EM.z ?_)
      refine a_if_neb C0 29 dX6_heatFor_24 rfl (fun h24 => ?_) (fun h24 => ?_)
      · have hv := (isTl_in rp.w).mp h5
        have hx : IX v (ix v) nT := IX.v hv
        have hz := pl_ (k := 1) (j := 1) (hx.le rp.t8) ⟨vq rfl, rfl⟩
        refine a_bipush C0 31 dX6_heatFor_29 rfl ?_
        refine a_iconst C0 4 dX6_heatFor_31 rfl ?_
        refine a_iload_n C0 1 dX6_heatFor_32 rfl rfl ?_
        refine a_imul C0 dX6_heatFor_33 ?_
        refine a_iadd C0 dX6_heatFor_34 ?_
        refine a_iconst C0 1 dX6_heatFor_35 rfl ?_
        refine a_iadd C0 dX6_heatFor_36 ?_
        refine a_istore (ls2 := [(4, _), (0, _), (1, _), (2, _), (3, _)]) C0 dX6_heatFor_37 (lt_b rfl) rfl ?_
        refine a_aload_n C0 1 dX6_heatFor_39 rfl rfl ?_
        refine g_X6_7 C0 (lt_b rfl) rfl rfl dX6_heatFor_40 ?_
        refine a_iload C0 0 dX6_heatFor_43 rfl ?_
        refine a_iald C0 _ (lt_b rfl) rfl hz.1 hz.2 dX6_heatFor_45 ?_
        refine a_istore (ls2 := [(5, _), (4, _), (0, _), (1, _), (2, _), (3, _)]) C0 dX6_heatFor_46 (lt_b rfl) rfl ?_
        refine a_bipush C0 (-3) dX6_heatFor_48 rfl ?_
        refine a_istore (ls2 := [(6, _), (5, _), (4, _), (0, _), (1, _), (2, _), (3, _)]) C0 dX6_heatFor_50 (lt_b rfl) rfl ?_
        refine a_iconst C0 0 dX6_heatFor_52 rfl ?_
        refine a_istore (ls2 := [(7, _), (6, _), (5, _), (4, _), (0, _), (1, _), (2, _), (3, _)]) C0 dX6_heatFor_53 (lt_b rfl) rfl ?_
        refine AW.sub (ls2 := [(0, _), (1, _), (2, _), (3, _), (4, _), (5, _), (6, _), (7, _)]) [4, 5, 6, 7, 3, 2, 1, 0] rfl ?_
        exact lp 101 0 _ _ _ _ (by omega) (Nat.zero_le _) rfl ⟨h5, h12, h24⟩ (fun _ _ _ => rfl) (EqX.refl _) (Or.inl ⟨rfl, rfl⟩)
      · refine a_iconst C0 (-1) dX6_heatFor_27 rfl ?_
        refine a_iret C0 hr dX6_heatFor_28 ?_
        have hc : ¬ (isTl P v ∧ isHo h ∧ (0 ≤ y ∧ y ≤ 30)) := fun q => by
          first
            | exact h5 q.1
            | exact h12 q.2.1
            | exact h24 q.2.2
        exact ⟨_, rfl, (if_neg hc).symm, _, _, rfl, EqX.refl _, EqS.refl _⟩

def lbS (S : RW) (v : Int32) : RW := fun k => if 23 ≤ k ∧ k < 31 then (v >>> (nI (k - 23) &&& 31)) &&& 1 else S k
theorem RP.lay {P : WM} {S : RW} {T mm : Nat} {v : Int32} (r : RP P S T mm) (hv : vp_in v 256) : RP (up2 P 0 7 v) (lbS S v) T mm := by
  have t8 := r.t8
  have no : ∀ k, ¬ (23 ≤ k ∧ k < 31) → lbS S v k = S k := fun k h => if_neg h
  exact RP.mk
    (n1 := r.n1)
    (n2 := (no _ (by omega)).trans r.n2)
    (t8 := r.t8)
    (m1 := r.m1)
    (m2 := (no _ (by omega)).trans r.m2)
    (z := (no _ (by omega)).trans r.z)
    (law := fun i hi => (no _ (by omega)).trans (r.law i hi))
    (fr := fun i hi => (no _ (by omega)).trans (r.fr i hi))
    (ta := fun i hi => (no _ (by omega)).trans (r.ta i hi))
    (bx := fun i hi => by
      show (if 23 ≤ 23 + i ∧ 23 + i < 31 then (v >>> (nI (23 + i - 23) &&& 31)) &&& 1 else S (23 + i)) = (v >>> (nI i &&& 31)) &&& 1
      rw [if_pos (by omega), Nat.add_sub_cancel_left])
    (of := fun t j ht hj => (no _ (by omega)).trans ((r.of t j ht hj).trans (up2_at (by omega)).symm))
    (frw := r.frw)
    (atw := r.atw)
    (hew := r.hew)
    (hdw := r.hdw)
    (kdw := r.kdw)
    (bxw := hv)
    (lw := r.lw)

set_option maxRecDepth 100000 in
set_option maxHeartbeats 4000000 in
theorem c_X6_laysBoxes (l : Launch) (G : GE) {ad : Nat → Nat} {M : WM} {O S : RW} {X : WM} {v : Int32} (hM : M = mkM O S X)  : CT l G yX6_laysBoxes cX6_laysBoxes 3 none 0 [.ref (ad 0), .int v] 14 ad (shM G ad) M (PV (fun u => u = mkM O (lbS S v) X)) := by
  refine CT.of (own := RX6) rfl rfl (le_b rfl) fun p e s m args below meth c A C0 hr => ?_
  refine AW.lo (ls2 := [(0, _), (1, _)]) rfl ?_
  subst hM
  have lp : ∀ (n : Nat) (i : Nat) (xi : Int32) (S1 : RW), 8 - i < n → (i ≤ 8) → (xi = nI i) → (∀ k, S1 k = if 23 ≤ k ∧ k < 23 + i then (v >>> (nI (k - 23) &&& 31)) &&& 1 else S k) → AW p l e (rmk 0) s m args below meth c G A 14 ad (shM G ad) 3 0 0 (MQ below (CQ G 14 ad (shM G ad) A (PV (fun u => u = mkM O (lbS S v) X))) args s 0 0 A) 2 [(0, .ref (ad 0)), (1, .int v), (2, .int xi)] [] (mkM O S1 X) := by
    intro n
    induction n with
    | zero =>
      intro i xi S1 hn
      exact absurd hn (Nat.not_lt_zero _)
    | succ n ih =>
      intro i xi S1 hn hi hxi hS1
      refine a_iload_n C0 2 dX6_laysBoxes_2 rfl rfl ?_
      refine a_bipush C0 8 dX6_laysBoxes_3 rfl ?_
      refine a_icmp_ge C0 28 dX6_laysBoxes_5 rfl (fun h5 => ?_) (fun h5 => ?_)
      · refine a_vret C0 hr dX6_laysBoxes_28 ?_
        have e : i = 8 := Nat.le_antisymm hi (i_ge (T := 8) hxi rfl (by omega) (by omega) h5)
        subst e
        exact ⟨rfl, by rw [show S1 = lbS S v from funext hS1]⟩
      · have hlt : i < 8 := i_lt (T := 8) hxi rfl (by omega) (by omega) h5
        have hb := ((IX.eqn hxi hlt (by decide)).pl 23 (bb := 23) rfl (by decide)).le (n2 := 63) (by decide)
        refine a_aload_n C0 0 dX6_laysBoxes_8 rfl rfl ?_
        refine g_X6_7 C0 (lt_b rfl) rfl rfl dX6_laysBoxes_9 ?_
        refine a_bipush C0 23 dX6_laysBoxes_12 rfl ?_
        refine a_iload_n C0 2 dX6_laysBoxes_14 rfl rfl ?_
        refine a_iadd C0 dX6_laysBoxes_15 ?_
        refine a_iload_n C0 1 dX6_laysBoxes_16 rfl rfl ?_
        refine a_iload_n C0 2 dX6_laysBoxes_17 rfl rfl ?_
        refine a_ishr C0 dX6_laysBoxes_18 ?_
        refine a_iconst C0 1 dX6_laysBoxes_19 rfl ?_
        refine a_iand C0 dX6_laysBoxes_20 ?_
        refine a_iast C0 _ (lt_b rfl) (fun _ => rfl) hb.1 hb.2 dX6_laysBoxes_21 ?_
        refine a_iinc (ls2 := [(2, _), (0, _), (1, _)]) C0 2 1 dX6_laysBoxes_22 rfl rfl (lt_b rfl) rfl ?_
        refine a_goto C0 2 dX6_laysBoxes_25 rfl ?_
        refine AW.sub (ls2 := [(0, _), (1, _), (2, _)]) [1, 2, 0] rfl ?_
        rw [mkM_S]
        exact ih (i + 1) _ _ (by omega) hlt (by rw [hxi, nI_1]) (fun k => by
          by_cases e : k = 23 + i
          · subst e
            rw [up_eq, if_pos (by omega), Nat.add_sub_cancel_left, hxi]
          · rw [up_ne e, hS1 k]
            by_cases e2 : 23 ≤ k ∧ k < 23 + i
            · rw [if_pos e2, if_pos (by omega)]
            · rw [if_neg e2, if_neg (by omega)])
  refine a_iconst C0 0 dX6_laysBoxes_0 rfl ?_
  refine a_istore_n (ls2 := [(2, _), (0, _), (1, _)]) C0 dX6_laysBoxes_1 rfl (lt_b rfl) rfl ?_
  refine AW.sub (ls2 := [(0, _), (1, _), (2, _)]) [1, 2, 0] rfl ?_
  exact lp 9 0 _ _ (by omega) (Nat.zero_le _) rfl (fun k => (if_neg (by omega)).symm)

def mkK (g : Nat → Int32) (v : Int32) : Nat → Int32
  | 0 => -3
  | k + 1 => if (mkK g v k < 0 ∨ bcS (nI k) < bcS (mkK g v k)) ∧ v ≤ g k then nI k else mkK g v k
theorem sz_t : ∀ a, a < 256 → (decide (bcS (nI a) = nI (bcS (nI a)).toNatClampNeg) && decide ((bcS (nI a)).toNatClampNeg ≤ 8)) = true := by decide +kernel
def sz (b : Nat) : Nat := ix (bcS (nI b))
theorem sz_e {b : Nat} (h : b < 256) : bcS (nI b) = nI (sz b) ∧ sz b ≤ 8 := by
  have q := sz_t b h
  rw [Bool.and_eq_true, decide_eq_true_iff, decide_eq_true_iff] at q
  exact q
def BK (g : Nat → Int32) (v : Int32) (n b : Nat) : Prop := b < n ∧ v ≤ g b ∧ ∀ c, c < n → v ≤ g c → sz b < sz c ∨ (sz b = sz c ∧ b ≤ c)
theorem mkK_c (g : Nat → Int32) (v : Int32) : ∀ n, n ≤ 256 → (mkK g v n = -3 ∧ ∀ c, c < n → ¬ v ≤ g c) ∨ ∃ b, mkK g v n = nI b ∧ BK g v n b
  | 0, _ => Or.inl ⟨rfl, fun c h => absurd h (Nat.not_lt_zero c)⟩
  | k + 1, hk => by
    have hs := sz_e (b := k) (by omega)
    rcases mkK_c g v k (by omega) with ⟨e, h⟩ | ⟨b, e, hb1, hb2, hb3⟩
    · by_cases c : v ≤ g k
      · refine Or.inr ⟨k, ?_, by omega, c, fun c2 h2 h3 => ?_⟩
        · exact if_pos ⟨Or.inl (by rw [e]; decide), c⟩
        · rcases Nat.lt_or_ge c2 k with q | q
          · exact absurd h3 (h c2 q)
          · have : c2 = k := by omega
            subst this
            exact Or.inr ⟨rfl, Nat.le_refl _⟩
      · refine Or.inl ⟨?_, fun c2 h2 h3 => ?_⟩
        · show (if (_ ∨ _) ∧ _ then _ else _) = _
          rw [if_neg fun q => c q.2]
          exact e
        · rcases Nat.lt_or_ge c2 k with q | q
          · exact h c2 q h3
          · have : c2 = k := by omega
            subst this
            exact c h3
    · have hsb := sz_e (b := b) (by omega)
      have hneg : ¬ nI b < 0 := Int32.not_lt.mpr (nI_le (a := 0) (Nat.zero_le _) (by omega))
      by_cases c : sz k < sz b ∧ v ≤ g k
      · refine Or.inr ⟨k, ?_, by omega, c.2, fun c2 h2 h3 => ?_⟩
        · refine if_pos ⟨Or.inr ?_, c.2⟩
          rw [e, hs.1, hsb.1]
          exact nI_lt c.1 (by omega)
        · rcases Nat.lt_or_ge c2 k with q | q
          · rcases hb3 c2 q h3 with q2 | q2
            · exact Or.inl (by omega)
            · exact Or.inl (by omega)
          · have : c2 = k := by omega
            subst this
            exact Or.inr ⟨rfl, Nat.le_refl _⟩
      · refine Or.inr ⟨b, ?_, by omega, hb2, fun c2 h2 h3 => ?_⟩
        · show (if (_ ∨ _) ∧ _ then _ else _) = _
          rw [if_neg, e]
          rintro ⟨q | q, q2⟩
          · rw [e] at q
            exact hneg q
          · rw [e, hs.1, hsb.1] at q
            exact c ⟨(nI_ltI (by omega) (by omega)).mp q, q2⟩
        · rcases Nat.lt_or_ge c2 k with q | q
          · exact hb3 c2 q h3
          · have : c2 = k := by omega
            subst this
            have : ¬ sz c2 < sz b := fun q => c ⟨q, h3⟩
            omega
theorem ki_c (g : Nat → Int32) (v z : Int32) : ∀ f b, (kiS g v z f b = none ∧ ∀ c, b ≤ c → c < b + f → ¬ (bcS (nI c) = z ∧ v ≤ g c)) ∨ ∃ c, b ≤ c ∧ c < b + f ∧ kiS g v z f b = some (nI c) ∧ (bcS (nI c) = z ∧ v ≤ g c) ∧ ∀ c2, b ≤ c2 → c2 < c → ¬ (bcS (nI c2) = z ∧ v ≤ g c2)
  | 0, b => Or.inl ⟨rfl, fun c h1 h2 => absurd h2 (by omega)⟩
  | f + 1, b => by
    unfold kiS
    by_cases h : bcS (nI b) = z ∧ v ≤ g b
    · rw [if_pos h]
      exact Or.inr ⟨b, Nat.le_refl _, by omega, rfl, h, fun c2 h1 h2 => absurd h2 (by omega)⟩
    · rw [if_neg h]
      rcases ki_c g v z f (b + 1) with ⟨e, h2⟩ | ⟨c, h1, h2, e, h3, h4⟩
      · refine Or.inl ⟨e, fun c h3 h4 => ?_⟩
        by_cases q : c = b
        · rw [q]
          exact h
        · exact h2 c (by omega) (by omega)
      · refine Or.inr ⟨c, by omega, by omega, e, h3, fun c2 h5 h6 => ?_⟩
        by_cases q : c2 = b
        · rw [q]
          exact h
        · exact h4 c2 (by omega) h6
theorem ko_no (g : Nat → Int32) (v : Int32) (h : ∀ c, c < 256 → ¬ v ≤ g c) : ∀ f z, koS g v f z = -3
  | 0, _ => rfl
  | f + 1, z => by
    unfold koS
    rcases ki_c g v (nI z) 256 0 with ⟨e, _⟩ | ⟨c, _, h2, _, h3, _⟩
    · rw [e]
      exact ko_no g v h f (z + 1)
    · exact absurd h3.2 (h c (by omega))
theorem ko_at (g : Nat → Int32) (v : Int32) {b : Nat} (hb : BK g v 256 b) : ∀ f z, z ≤ sz b → sz b < z + f → koS g v f z = nI b
  | 0, z, h1, h2 => absurd h2 (by omega)
  | f + 1, z, h1, h2 => by
    obtain ⟨hb1, hb2, hb3⟩ := hb
    have hsb := sz_e hb1
    unfold koS
    rcases ki_c g v (nI z) 256 0 with ⟨e, h3⟩ | ⟨c, _, hc, e, h3, h4⟩
    · rw [e]
      have hne : sz b ≠ z := fun q => h3 b (Nat.zero_le _) (by omega) ⟨by rw [hsb.1, q], hb2⟩
      exact ko_at g v ⟨hb1, hb2, hb3⟩ f (z + 1) (by omega) (by omega)
    · rw [e]
      show nI c = nI b
      have hsc := sz_e (b := c) (by omega)
      have hz : sz c = z := by
        have q := h3.1
        rw [hsc.1] at q
        have q2 := congrArg ix q
        rw [show ix (nI (sz c)) = sz c from nI_clamp (by omega), show ix (nI z) = z from nI_clamp (by omega)] at q2
        exact q2
      have q := hb3 c (by omega) h3.2
      by_cases hlt : b < c
      · exact absurd ⟨by rw [hsb.1]; exact congrArg nI (by omega), hb2⟩ (h4 b (Nat.zero_le _) hlt)
      · exact congrArg nI (by omega)
theorem mkK_256 (g : Nat → Int32) (v : Int32) : mkK g v 256 = koS g v 9 0 := by
  rcases mkK_c g v 256 (Nat.le_refl _) with ⟨e, h⟩ | ⟨b, e, h⟩
  · rw [e, ko_no g v h]
  · have hs := sz_e (b := b) h.1
    rw [e, ko_at g v h 9 0 (Nat.zero_le _) (by omega)]
theorem mkK_in (g : Nat → Int32) (v : Int32) {n : Nat} (hn : n ≤ 256) (h : ¬ mkK g v n < 0) : vp_in (mkK g v n) 256 := by
  rcases mkK_c g v n hn with ⟨e, _⟩ | ⟨b, e, hb, _⟩
  · exact absurd (by rw [e]; decide) h
  · rw [e]
    exact vp_in_nI (by omega) (by decide)

set_option maxRecDepth 100000 in
set_option maxHeartbeats 4000000 in
theorem c_X6_keptFor (l : Launch) (G : GE) {ad : Nat → Nat} {M : WM} {O S : RW} {X : WM} {P : WM} {nT mm : Nat} (rp : RP P S nT mm) {v y z : Int32} (hm : mm + 61 < 2 ^ 31) (hM : M = mkM O S X)  : CT l G yX6_keptFor cX6_keptFor 7 (some .int) 5 [.ref (ad 0), .int v, .int y, .int z] 14 ad (shM G ad) M (PI (fun r u => r = (if (isTl P v ∧ (1 ≤ y ∧ y ≤ 20) ∧ (0 ≤ z ∧ z ≤ 99)) then koS (fun i => minsP (ix y) (up2 P 0 7 (nI i)) (ix v) 5 (ix v)) z 9 0 else -1) ∧ ∃ S' X', u = mkM O S' X' ∧ EqX X X' ∧ EqS S S')) := by
  refine CT.of (own := RX6) rfl rfl (le_b rfl) fun p e s m args below meth c A C0 hr => ?_
  refine AW.lo (ls2 := [(0, _), (1, _), (2, _), (3, _)]) rfl ?_
  subst hM
  have lp : ∀ (n : Nat) (i : Nat) (xi b : Int32) (S1 : RW) (X1 : WM), 256 - i < n → (i ≤ 256) → (xi = nI i) → ((isTl P v ∧ (1 ≤ y ∧ y ≤ 20) ∧ (0 ≤ z ∧ z ≤ 99))) → (∀ k, k < 63 → ¬ (23 ≤ k ∧ k < 31) → S1 k = S k) → (EqX X X1) → (b = mkK (fun i => minsP (ix y) (up2 P 0 7 (nI i)) (ix v) 5 (ix v)) z i) → AW p l e (rmk 5) s m args below meth c G A 14 ad (shM G ad) 7 0 0 (MQ below (CQ G 14 ad (shM G ad) A (PI (fun r u => r = (if (isTl P v ∧ (1 ≤ y ∧ y ≤ 20) ∧ (0 ≤ z ∧ z ≤ 99)) then koS (fun i => minsP (ix y) (up2 P 0 7 (nI i)) (ix v) 5 (ix v)) z 9 0 else -1) ∧ ∃ S' X', u = mkM O S' X' ∧ EqX X X' ∧ EqS S S'))) args s 0 0 A) 47 [(0, .ref (ad 0)), (1, .int v), (2, .int y), (3, .int z), (4, .int (P 0 7)), (5, .int b), (6, .int xi)] [] (mkM O S1 X1) := by
    intro n
    induction n with
    | zero =>
      intro i xi b S1 X1 hn
      exact absurd hn (Nat.not_lt_zero _)
    | succ n ih =>
      intro i xi b S1 X1 hn hi hxi hc hS1 hX1 hb
      have hv := (isTl_in rp.w).mp hc.1
      have hx : IX v (ix v) nT := IX.v hv
      refine a_iload C0 6 dX6_keptFor_47 rfl ?_
      refine a_sipush C0 255 dX6_keptFor_49 rfl ?_
      refine a_icmp_gt C0 104 dX6_keptFor_52 rfl (fun h52 => ?_) (fun h52 => ?_)
      · refine a_aload_n C0 0 dX6_keptFor_104 rfl rfl ?_
        refine a_iload C0 4 dX6_keptFor_105 rfl ?_
        refine a_callV _ 1 C0 EM.refl (c_X6_laysBoxes l G rfl) u_c_X6_laysBoxes u_m_X6_255 u_im_X6_laysBoxes u_se_X6_laysBoxes u_in_X6 hy_X6_laysBoxes rfl (lt_b rfl) rfl (hRk rfl) rfl rfl (le_b rfl) dX6_keptFor_107 (k_vo ?_)
        refine a_iload C0 5 dX6_keptFor_110 rfl ?_
        refine a_iret C0 hr dX6_keptFor_112 ?_
        have hge : 255 < i := by
          rw [hxi] at h52
          exact (nI_ltI (a := 255) (by decide) (by omega)).mp h52
        have e : i = 256 := by omega
        subst e
        refine ⟨_, rfl, ?_, _, _, rfl, hX1, fun k hk => ?_⟩
        · rw [if_pos hc, hb, mkK_256]
        · by_cases e : 23 ≤ k ∧ k < 31
          · refine (if_pos e).trans ?_
            have q := rp.bx (k - 23) (by omega)
            rw [show 23 + (k - 23) = k by omega] at q
            exact q.symm
          · exact (if_neg e).trans (hS1 k hk e)
      · have hle : i ≤ 255 := Nat.not_lt.mp fun z => h52 (by rw [hxi]; exact nI_lt (a := 255) z (by omega))
        have hxv : vp_in xi 256 := by rw [hxi]; exact vp_in_nI (by omega) (by decide)
        refine a_iload C0 5 dX6_keptFor_55 rfl ?_
        refine a_if_lt C0 73 dX6_keptFor_57 rfl (fun h57 => ?_) (fun h57 => ?_)
        · refine a_aload_n C0 0 dX6_keptFor_73 rfl rfl ?_
          refine a_iload C0 6 dX6_keptFor_74 rfl ?_
          refine a_callV _ 1 C0 EM.refl (c_X6_laysBoxes l G rfl) u_c_X6_laysBoxes u_m_X6_255 u_im_X6_laysBoxes u_se_X6_laysBoxes u_in_X6 hy_X6_laysBoxes rfl (lt_b rfl) rfl (hRk rfl) rfl rfl (le_b rfl) dX6_keptFor_76 (k_vo ?_)
          have rpi : RP (up2 P 0 7 xi) (lbS S1 xi) nT mm := (rp.lay hxv).eqS fun k hk => by
            by_cases e : 23 ≤ k ∧ k < 31
            · exact (if_pos e).trans (if_pos e).symm
            · exact (if_neg e).trans ((hS1 k hk e).trans (if_neg e).symm)
          refine a_aload_n C0 0 dX6_keptFor_79 rfl rfl ?_
          refine a_iload_n C0 1 dX6_keptFor_80 rfl rfl ?_
          refine a_iload_n C0 2 dX6_keptFor_81 rfl rfl ?_
          refine a_callV _ 2 C0 EM.refl (c_X6_heatBehind l G rpi hx (vp_le (in_of (n := 20) (by decide) ⟨Int32.le_trans (by decide) hc.2.1.1, hc.2.1.2⟩) (by decide)) hm rfl) u_c_X6_heatBehind u_m_X6_250 u_im_X6_heatBehind u_se_X6_heatBehind u_in_X6 hy_X6_heatBehind rfl (lt_b rfl) rfl (hRk rfl) rfl rfl (le_b rfl) dX6_keptFor_82 (k_i fun r82 u82 q82 => ?_)
          obtain ⟨rfl, S3, X3, rfl, hX3, hS3⟩ := q82
          refine a_iload_n C0 3 dX6_keptFor_85 rfl rfl ?_
          refine a_icmp_lt C0 94 dX6_keptFor_86 rfl (fun h86 => ?_) (fun h86 => ?_)
          · refine a_iload C0 5 dX6_keptFor_94 rfl ?_
            refine a_istore (ls2 := [(5, _), (0, _), (1, _), (2, _), (3, _), (4, _), (6, _)]) C0 dX6_keptFor_96 (lt_b rfl) rfl ?_
            refine a_iinc (ls2 := [(6, _), (5, _), (0, _), (1, _), (2, _), (3, _), (4, _)]) C0 6 1 dX6_keptFor_98 rfl rfl (lt_b rfl) rfl ?_
            refine a_goto C0 47 dX6_keptFor_101 rfl ?_
            refine AW.sub (ls2 := [(0, _), (1, _), (2, _), (3, _), (4, _), (5, _), (6, _)]) [2, 3, 4, 5, 6, 1, 0] rfl ?_
            first
              | (have hno : ¬ ((mkK (fun i => minsP (ix y) (up2 P 0 7 (nI i)) (ix v) 5 (ix v)) z i < 0 ∨ bcS (nI i) < bcS (mkK (fun i => minsP (ix y) (up2 P 0 7 (nI i)) (ix v) 5 (ix v)) z i)) ∧ z ≤ (fun i => minsP (ix y) (up2 P 0 7 (nI i)) (ix v) 5 (ix v)) i) := by
                   rintro ⟨q | q, -⟩
                   · rw [← hb] at q
                     exact h57 q
                   · rw [← hb, ← hxi] at q
                     exact absurd q (Int32.not_lt.mpr h70)
                 exact ih (i + 1) _ _ _ _ (by omega) (by omega) (by rw [hxi, nI_1]) hc hS1 hX1 (by
                   rw [hb]
                   exact (if_neg hno).symm))
              | (have hyes : mkK (fun i => minsP (ix y) (up2 P 0 7 (nI i)) (ix v) 5 (ix v)) z i < 0 ∨ bcS (nI i) < bcS (mkK (fun i => minsP (ix y) (up2 P 0 7 (nI i)) (ix v) 5 (ix v)) z i) := by
                   rw [← hb, ← hxi]
                   first
                     | exact Or.inl h57
                     | exact Or.inr (Int32.not_le.mp h70)
                 have hg : (fun i => minsP (ix y) (up2 P 0 7 (nI i)) (ix v) 5 (ix v)) i = minsP (ix y) (up2 P 0 7 xi) (ix v) 5 (ix v) := by rw [hxi]
                 exact ih (i + 1) _ _ _ _ (by omega) (by omega) (by rw [hxi, nI_1]) hc (fun k hk hkq => (hS3 k hk).trans ((if_neg hkq).trans (hS1 k hk hkq))) (hX1.trans hX3) (by
                   show _ = if (mkK (fun i => minsP (ix y) (up2 P 0 7 (nI i)) (ix v) 5 (ix v)) z i < 0 ∨ bcS (nI i) < bcS (mkK (fun i => minsP (ix y) (up2 P 0 7 (nI i)) (ix v) 5 (ix v)) z i)) ∧ z ≤ (fun i => minsP (ix y) (up2 P 0 7 (nI i)) (ix v) 5 (ix v)) i then nI i else mkK (fun i => minsP (ix y) (up2 P 0 7 (nI i)) (ix v) 5 (ix v)) z i
                   rw [hg]
                   first
                     | rw [if_pos ⟨hyes, Int32.not_lt.mp h86⟩, hxi]
                     | (rw [if_neg fun q => absurd q.2 (Int32.not_le.mpr h86)]
                        exact hb)))
          · refine a_iload C0 6 dX6_keptFor_89 rfl ?_
            refine a_goto C0 96 dX6_keptFor_91 rfl ?_
            refine a_istore (ls2 := [(5, _), (0, _), (1, _), (2, _), (3, _), (4, _), (6, _)]) C0 dX6_keptFor_96 (lt_b rfl) rfl ?_
            refine a_iinc (ls2 := [(6, _), (5, _), (0, _), (1, _), (2, _), (3, _), (4, _)]) C0 6 1 dX6_keptFor_98 rfl rfl (lt_b rfl) rfl ?_
            refine a_goto C0 47 dX6_keptFor_101 rfl ?_
            refine AW.sub (ls2 := [(0, _), (1, _), (2, _), (3, _), (4, _), (5, _), (6, _)]) [2, 3, 4, 5, 6, 1, 0] rfl ?_
            first
              | (have hno : ¬ ((mkK (fun i => minsP (ix y) (up2 P 0 7 (nI i)) (ix v) 5 (ix v)) z i < 0 ∨ bcS (nI i) < bcS (mkK (fun i => minsP (ix y) (up2 P 0 7 (nI i)) (ix v) 5 (ix v)) z i)) ∧ z ≤ (fun i => minsP (ix y) (up2 P 0 7 (nI i)) (ix v) 5 (ix v)) i) := by
                   rintro ⟨q | q, -⟩
                   · rw [← hb] at q
                     exact h57 q
                   · rw [← hb, ← hxi] at q
                     exact absurd q (Int32.not_lt.mpr h70)
                 exact ih (i + 1) _ _ _ _ (by omega) (by omega) (by rw [hxi, nI_1]) hc hS1 hX1 (by
                   rw [hb]
                   exact (if_neg hno).symm))
              | (have hyes : mkK (fun i => minsP (ix y) (up2 P 0 7 (nI i)) (ix v) 5 (ix v)) z i < 0 ∨ bcS (nI i) < bcS (mkK (fun i => minsP (ix y) (up2 P 0 7 (nI i)) (ix v) 5 (ix v)) z i) := by
                   rw [← hb, ← hxi]
                   first
                     | exact Or.inl h57
                     | exact Or.inr (Int32.not_le.mp h70)
                 have hg : (fun i => minsP (ix y) (up2 P 0 7 (nI i)) (ix v) 5 (ix v)) i = minsP (ix y) (up2 P 0 7 xi) (ix v) 5 (ix v) := by rw [hxi]
                 exact ih (i + 1) _ _ _ _ (by omega) (by omega) (by rw [hxi, nI_1]) hc (fun k hk hkq => (hS3 k hk).trans ((if_neg hkq).trans (hS1 k hk hkq))) (hX1.trans hX3) (by
                   show _ = if (mkK (fun i => minsP (ix y) (up2 P 0 7 (nI i)) (ix v) 5 (ix v)) z i < 0 ∨ bcS (nI i) < bcS (mkK (fun i => minsP (ix y) (up2 P 0 7 (nI i)) (ix v) 5 (ix v)) z i)) ∧ z ≤ (fun i => minsP (ix y) (up2 P 0 7 (nI i)) (ix v) 5 (ix v)) i then nI i else mkK (fun i => minsP (ix y) (up2 P 0 7 (nI i)) (ix v) 5 (ix v)) z i
                   rw [hg]
                   first
                     | rw [if_pos ⟨hyes, Int32.not_lt.mp h86⟩, hxi]
                     | (rw [if_neg fun q => absurd q.2 (Int32.not_le.mpr h86)]
                        exact hb)))
        · refine a_iload C0 6 dX6_keptFor_60 rfl ?_
          refine a_callS _ 1 C0 EM.z (c_X6_size l G hxv) u_c_X6_size u_m_X6_170 u_st_X6_size u_in_X6 hy_X6_size.2 (hRk rfl) rfl rfl (le_b rfl) dX6_keptFor_62 (k_ro EM.z ?_)
          refine a_iload C0 5 dX6_keptFor_65 rfl ?_
          refine a_callS _ 1 C0 EM.z (c_X6_size l G (by rw [hb]; exact mkK_in _ _ (by omega) (by rw [← hb]; exact h57))) u_c_X6_size u_m_X6_170 u_st_X6_size u_in_X6 hy_X6_size.2 (hRk rfl) rfl rfl (le_b rfl) dX6_keptFor_67 (k_ro EM.z ?_)
          refine a_icmp_ge C0 98 dX6_keptFor_70 rfl (fun h70 => ?_) (fun h70 => ?_)
          · refine a_iinc (ls2 := [(6, _), (0, _), (1, _), (2, _), (3, _), (4, _), (5, _)]) C0 6 1 dX6_keptFor_98 rfl rfl (lt_b rfl) rfl ?_
            refine a_goto C0 47 dX6_keptFor_101 rfl ?_
            refine AW.sub (ls2 := [(0, _), (1, _), (2, _), (3, _), (4, _), (5, _), (6, _)]) [1, 2, 3, 4, 5, 6, 0] rfl ?_
            first
              | (have hno : ¬ ((mkK (fun i => minsP (ix y) (up2 P 0 7 (nI i)) (ix v) 5 (ix v)) z i < 0 ∨ bcS (nI i) < bcS (mkK (fun i => minsP (ix y) (up2 P 0 7 (nI i)) (ix v) 5 (ix v)) z i)) ∧ z ≤ (fun i => minsP (ix y) (up2 P 0 7 (nI i)) (ix v) 5 (ix v)) i) := by
                   rintro ⟨q | q, -⟩
                   · rw [← hb] at q
                     exact h57 q
                   · rw [← hb, ← hxi] at q
                     exact absurd q (Int32.not_lt.mpr h70)
                 exact ih (i + 1) _ _ _ _ (by omega) (by omega) (by rw [hxi, nI_1]) hc hS1 hX1 (by
                   rw [hb]
                   exact (if_neg hno).symm))
              | (have hyes : mkK (fun i => minsP (ix y) (up2 P 0 7 (nI i)) (ix v) 5 (ix v)) z i < 0 ∨ bcS (nI i) < bcS (mkK (fun i => minsP (ix y) (up2 P 0 7 (nI i)) (ix v) 5 (ix v)) z i) := by
                   rw [← hb, ← hxi]
                   first
                     | exact Or.inl h57
                     | exact Or.inr (Int32.not_le.mp h70)
                 have hg : (fun i => minsP (ix y) (up2 P 0 7 (nI i)) (ix v) 5 (ix v)) i = minsP (ix y) (up2 P 0 7 xi) (ix v) 5 (ix v) := by rw [hxi]
                 exact ih (i + 1) _ _ _ _ (by omega) (by omega) (by rw [hxi, nI_1]) hc (fun k hk hkq => (hS3 k hk).trans ((if_neg hkq).trans (hS1 k hk hkq))) (hX1.trans hX3) (by
                   show _ = if (mkK (fun i => minsP (ix y) (up2 P 0 7 (nI i)) (ix v) 5 (ix v)) z i < 0 ∨ bcS (nI i) < bcS (mkK (fun i => minsP (ix y) (up2 P 0 7 (nI i)) (ix v) 5 (ix v)) z i)) ∧ z ≤ (fun i => minsP (ix y) (up2 P 0 7 (nI i)) (ix v) 5 (ix v)) i then nI i else mkK (fun i => minsP (ix y) (up2 P 0 7 (nI i)) (ix v) 5 (ix v)) z i
                   rw [hg]
                   first
                     | rw [if_pos ⟨hyes, Int32.not_lt.mp h86⟩, hxi]
                     | (rw [if_neg fun q => absurd q.2 (Int32.not_le.mpr h86)]
                        exact hb)))
          · refine a_aload_n C0 0 dX6_keptFor_73 rfl rfl ?_
            refine a_iload C0 6 dX6_keptFor_74 rfl ?_
            refine a_callV _ 1 C0 EM.refl (c_X6_laysBoxes l G rfl) u_c_X6_laysBoxes u_m_X6_255 u_im_X6_laysBoxes u_se_X6_laysBoxes u_in_X6 hy_X6_laysBoxes rfl (lt_b rfl) rfl (hRk rfl) rfl rfl (le_b rfl) dX6_keptFor_76 (k_vo ?_)
            have rpi : RP (up2 P 0 7 xi) (lbS S1 xi) nT mm := (rp.lay hxv).eqS fun k hk => by
              by_cases e : 23 ≤ k ∧ k < 31
              · exact (if_pos e).trans (if_pos e).symm
              · exact (if_neg e).trans ((hS1 k hk e).trans (if_neg e).symm)
            refine a_aload_n C0 0 dX6_keptFor_79 rfl rfl ?_
            refine a_iload_n C0 1 dX6_keptFor_80 rfl rfl ?_
            refine a_iload_n C0 2 dX6_keptFor_81 rfl rfl ?_
            refine a_callV _ 2 C0 EM.refl (c_X6_heatBehind l G rpi hx (vp_le (in_of (n := 20) (by decide) ⟨Int32.le_trans (by decide) hc.2.1.1, hc.2.1.2⟩) (by decide)) hm rfl) u_c_X6_heatBehind u_m_X6_250 u_im_X6_heatBehind u_se_X6_heatBehind u_in_X6 hy_X6_heatBehind rfl (lt_b rfl) rfl (hRk rfl) rfl rfl (le_b rfl) dX6_keptFor_82 (k_i fun r82 u82 q82 => ?_)
            obtain ⟨rfl, S3, X3, rfl, hX3, hS3⟩ := q82
            refine a_iload_n C0 3 dX6_keptFor_85 rfl rfl ?_
            refine a_icmp_lt C0 94 dX6_keptFor_86 rfl (fun h86 => ?_) (fun h86 => ?_)
            · refine a_iload C0 5 dX6_keptFor_94 rfl ?_
              refine a_istore (ls2 := [(5, _), (0, _), (1, _), (2, _), (3, _), (4, _), (6, _)]) C0 dX6_keptFor_96 (lt_b rfl) rfl ?_
              refine a_iinc (ls2 := [(6, _), (5, _), (0, _), (1, _), (2, _), (3, _), (4, _)]) C0 6 1 dX6_keptFor_98 rfl rfl (lt_b rfl) rfl ?_
              refine a_goto C0 47 dX6_keptFor_101 rfl ?_
              refine AW.sub (ls2 := [(0, _), (1, _), (2, _), (3, _), (4, _), (5, _), (6, _)]) [2, 3, 4, 5, 6, 1, 0] rfl ?_
              first
                | (have hno : ¬ ((mkK (fun i => minsP (ix y) (up2 P 0 7 (nI i)) (ix v) 5 (ix v)) z i < 0 ∨ bcS (nI i) < bcS (mkK (fun i => minsP (ix y) (up2 P 0 7 (nI i)) (ix v) 5 (ix v)) z i)) ∧ z ≤ (fun i => minsP (ix y) (up2 P 0 7 (nI i)) (ix v) 5 (ix v)) i) := by
                     rintro ⟨q | q, -⟩
                     · rw [← hb] at q
                       exact h57 q
                     · rw [← hb, ← hxi] at q
                       exact absurd q (Int32.not_lt.mpr h70)
                   exact ih (i + 1) _ _ _ _ (by omega) (by omega) (by rw [hxi, nI_1]) hc hS1 hX1 (by
                     rw [hb]
                     exact (if_neg hno).symm))
                | (have hyes : mkK (fun i => minsP (ix y) (up2 P 0 7 (nI i)) (ix v) 5 (ix v)) z i < 0 ∨ bcS (nI i) < bcS (mkK (fun i => minsP (ix y) (up2 P 0 7 (nI i)) (ix v) 5 (ix v)) z i) := by
                     rw [← hb, ← hxi]
                     first
                       | exact Or.inl h57
                       | exact Or.inr (Int32.not_le.mp h70)
                   have hg : (fun i => minsP (ix y) (up2 P 0 7 (nI i)) (ix v) 5 (ix v)) i = minsP (ix y) (up2 P 0 7 xi) (ix v) 5 (ix v) := by rw [hxi]
                   exact ih (i + 1) _ _ _ _ (by omega) (by omega) (by rw [hxi, nI_1]) hc (fun k hk hkq => (hS3 k hk).trans ((if_neg hkq).trans (hS1 k hk hkq))) (hX1.trans hX3) (by
                     show _ = if (mkK (fun i => minsP (ix y) (up2 P 0 7 (nI i)) (ix v) 5 (ix v)) z i < 0 ∨ bcS (nI i) < bcS (mkK (fun i => minsP (ix y) (up2 P 0 7 (nI i)) (ix v) 5 (ix v)) z i)) ∧ z ≤ (fun i => minsP (ix y) (up2 P 0 7 (nI i)) (ix v) 5 (ix v)) i then nI i else mkK (fun i => minsP (ix y) (up2 P 0 7 (nI i)) (ix v) 5 (ix v)) z i
                     rw [hg]
                     first
                       | rw [if_pos ⟨hyes, Int32.not_lt.mp h86⟩, hxi]
                       | (rw [if_neg fun q => absurd q.2 (Int32.not_le.mpr h86)]
                          exact hb)))
            · refine a_iload C0 6 dX6_keptFor_89 rfl ?_
              refine a_goto C0 96 dX6_keptFor_91 rfl ?_
              refine a_istore (ls2 := [(5, _), (0, _), (1, _), (2, _), (3, _), (4, _), (6, _)]) C0 dX6_keptFor_96 (lt_b rfl) rfl ?_
              refine a_iinc (ls2 := [(6, _), (5, _), (0, _), (1, _), (2, _), (3, _), (4, _)]) C0 6 1 dX6_keptFor_98 rfl rfl (lt_b rfl) rfl ?_
              refine a_goto C0 47 dX6_keptFor_101 rfl ?_
              refine AW.sub (ls2 := [(0, _), (1, _), (2, _), (3, _), (4, _), (5, _), (6, _)]) [2, 3, 4, 5, 6, 1, 0] rfl ?_
              first
                | (have hno : ¬ ((mkK (fun i => minsP (ix y) (up2 P 0 7 (nI i)) (ix v) 5 (ix v)) z i < 0 ∨ bcS (nI i) < bcS (mkK (fun i => minsP (ix y) (up2 P 0 7 (nI i)) (ix v) 5 (ix v)) z i)) ∧ z ≤ (fun i => minsP (ix y) (up2 P 0 7 (nI i)) (ix v) 5 (ix v)) i) := by
                     rintro ⟨q | q, -⟩
                     · rw [← hb] at q
                       exact h57 q
                     · rw [← hb, ← hxi] at q
                       exact absurd q (Int32.not_lt.mpr h70)
                   exact ih (i + 1) _ _ _ _ (by omega) (by omega) (by rw [hxi, nI_1]) hc hS1 hX1 (by
                     rw [hb]
                     exact (if_neg hno).symm))
                | (have hyes : mkK (fun i => minsP (ix y) (up2 P 0 7 (nI i)) (ix v) 5 (ix v)) z i < 0 ∨ bcS (nI i) < bcS (mkK (fun i => minsP (ix y) (up2 P 0 7 (nI i)) (ix v) 5 (ix v)) z i) := by
                     rw [← hb, ← hxi]
                     first
                       | exact Or.inl h57
                       | exact Or.inr (Int32.not_le.mp h70)
                   have hg : (fun i => minsP (ix y) (up2 P 0 7 (nI i)) (ix v) 5 (ix v)) i = minsP (ix y) (up2 P 0 7 xi) (ix v) 5 (ix v) := by rw [hxi]
                   exact ih (i + 1) _ _ _ _ (by omega) (by omega) (by rw [hxi, nI_1]) hc (fun k hk hkq => (hS3 k hk).trans ((if_neg hkq).trans (hS1 k hk hkq))) (hX1.trans hX3) (by
                     show _ = if (mkK (fun i => minsP (ix y) (up2 P 0 7 (nI i)) (ix v) 5 (ix v)) z i < 0 ∨ bcS (nI i) < bcS (mkK (fun i => minsP (ix y) (up2 P 0 7 (nI i)) (ix v) 5 (ix v)) z i)) ∧ z ≤ (fun i => minsP (ix y) (up2 P 0 7 (nI i)) (ix v) 5 (ix v)) i then nI i else mkK (fun i => minsP (ix y) (up2 P 0 7 (nI i)) (ix v) 5 (ix v)) z i
                     rw [hg]
                     first
                       | rw [if_pos ⟨hyes, Int32.not_lt.mp h86⟩, hxi]
                       | (rw [if_neg fun q => absurd q.2 (Int32.not_le.mpr h86)]
                          exact hb)))
  refine a_aload_n C0 0 dX6_keptFor_0 rfl rfl ?_
  refine a_iload_n C0 1 dX6_keptFor_1 rfl rfl ?_
  refine a_callV _ 1 C0 EM.refl (c_X6_isOne l G rp  rfl) u_c_X6_isOne u_m_X6_173 u_im_X6_isOne u_se_X6_isOne u_in_X6 hy_X6_isOne rfl (lt_b rfl) rfl (hRk rfl) rfl rfl (le_b rfl) dX6_keptFor_2 (k_ro EM.refl ?_)
  refine a_if_eqb C0 32 dX6_keptFor_5 rfl (fun h5 => ?_) (fun h5 => ?_)
  · refine a_iconst C0 (-1) dX6_keptFor_32 rfl ?_
    refine a_iret C0 hr dX6_keptFor_33 ?_
    have hc : ¬ (isTl P v ∧ (1 ≤ y ∧ y ≤ 20) ∧ (0 ≤ z ∧ z ≤ 99)) := fun q => by
      first
        | exact h5 q.1
        | exact h17 q.2.1
        | exact h29 q.2.2
    exact ⟨_, rfl, (if_neg hc).symm, _, _, rfl, EqX.refl _, EqS.refl _⟩
  · refine a_iload_n C0 2 dX6_keptFor_8 rfl rfl ?_
    refine a_i2l C0 dX6_keptFor_9 ?_
    refine a_lconst C0 1 dX6_keptFor_10 rfl ?_
    refine a_ldc2 C0 dX6_keptFor_11 u_k_X6_253 ?_
    refine a_callS _ 3 C0 EM.z (c_X6_isIn l G (w2 := 1) (w3 := 20) rfl rfl rfl) u_c_X6_isIn u_m_X6_54 u_st_X6_isIn u_in_X6 hy_X6_isIn.2 (hRk rfl) rfl rfl (le_b rfl) dX6_keptFor_14 (k_ro EM.z ?_)
    refine a_if_eqb C0 32 dX6_keptFor_17 rfl (fun h17 => ?_) (fun h17 => ?_)
    · refine a_iconst C0 (-1) dX6_keptFor_32 rfl ?_
      refine a_iret C0 hr dX6_keptFor_33 ?_
      have hc : ¬ (isTl P v ∧ (1 ≤ y ∧ y ≤ 20) ∧ (0 ≤ z ∧ z ≤ 99)) := fun q => by
        first
          | exact h5 q.1
          | exact h17 q.2.1
          | exact h29 q.2.2
      exact ⟨_, rfl, (if_neg hc).symm, _, _, rfl, EqX.refl _, EqS.refl _⟩
    · refine a_iload_n C0 3 dX6_keptFor_20 rfl rfl ?_
      refine a_i2l C0 dX6_keptFor_21 ?_
      refine a_lconst C0 0 dX6_keptFor_22 rfl ?_
      refine a_ldc2 C0 dX6_keptFor_23 u_k_X6_162 ?_
      refine a_callS _ 3 C0 EM.z (c_X6_isIn l G (w2 := 0) (w3 := 99) rfl rfl rfl) u_c_X6_isIn u_m_X6_54 u_st_X6_isIn u_in_X6 hy_X6_isIn.2 (hRk rfl) rfl rfl (le_b rfl) dX6_keptFor_26 (k_ro EM.z ?_)
      refine a_if_neb C0 34 dX6_keptFor_29 rfl (fun h29 => ?_) (fun h29 => ?_)
      · refine a_aload_n C0 0 dX6_keptFor_34 rfl rfl ?_
        refine a_callV _ 0 C0 EM.refl (c_X6_boxes l G rp  rfl) u_c_X6_boxes u_m_X6_227 u_im_X6_boxes u_se_X6_boxes u_in_X6 hy_X6_boxes rfl (lt_b rfl) rfl (hRk rfl) rfl rfl (le_b rfl) dX6_keptFor_35 (k_ro EM.refl ?_)
        refine a_istore (ls2 := [(4, _), (0, _), (1, _), (2, _), (3, _)]) C0 dX6_keptFor_38 (lt_b rfl) rfl ?_
        refine a_bipush C0 (-3) dX6_keptFor_40 rfl ?_
        refine a_istore (ls2 := [(5, _), (4, _), (0, _), (1, _), (2, _), (3, _)]) C0 dX6_keptFor_42 (lt_b rfl) rfl ?_
        refine a_iconst C0 0 dX6_keptFor_44 rfl ?_
        refine a_istore (ls2 := [(6, _), (5, _), (4, _), (0, _), (1, _), (2, _), (3, _)]) C0 dX6_keptFor_45 (lt_b rfl) rfl ?_
        refine AW.sub (ls2 := [(0, _), (1, _), (2, _), (3, _), (4, _), (5, _), (6, _)]) [3, 4, 5, 6, 2, 1, 0] rfl ?_
        exact lp 257 0 _ _ _ _ (by omega) (Nat.zero_le _) rfl ⟨h5, h17, h29⟩ (fun _ _ _ => rfl) (EqX.refl _) rfl
      · refine a_iconst C0 (-1) dX6_keptFor_32 rfl ?_
        refine a_iret C0 hr dX6_keptFor_33 ?_
        have hc : ¬ (isTl P v ∧ (1 ≤ y ∧ y ≤ 20) ∧ (0 ≤ z ∧ z ≤ 99)) := fun q => by
          first
            | exact h5 q.1
            | exact h17 q.2.1
            | exact h29 q.2.2
        exact ⟨_, rfl, (if_neg hc).symm, _, _, rfl, EqX.refl _, EqS.refl _⟩
