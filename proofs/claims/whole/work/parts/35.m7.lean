
theorem hu_c {t : Nat} {q : Int32} {P : WM} (yn : Nat) (hy : yn ≤ 60) : (nI yn < (if huS (yn + 1) P t q 0 = -3 then nI (yn + 1) else huS (yn + 1) P t q 0) → huS (yn + 1) P t q 0 = -3) ∧ (¬ nI yn < (if huS (yn + 1) P t q 0 = -3 then nI (yn + 1) else huS (yn + 1) P t q 0) → ¬ huS (yn + 1) P t q 0 = -3 ∧ (if huS (yn + 1) P t q 0 = -3 then nI (yn + 1) else huS (yn + 1) P t q 0) = huS (yn + 1) P t q 0) := by
  rcases hu_r (yn + 1) P 0 (t := t) (q := q) with h | ⟨j, hj, h⟩
  · rw [h, if_pos rfl]
    exact ⟨fun _ => rfl, fun q => absurd (nI_lt (by omega) (by omega)) q⟩
  · rw [h, if_neg (nI_m3 (by omega))]
    exact ⟨fun q => absurd ((nI_ltI (by omega) (by omega)).mp q) (by omega), fun _ => ⟨nI_m3 (by omega), rfl⟩⟩

set_option maxRecDepth 100000 in
set_option maxHeartbeats 4000000 in
theorem c_X6_comes (l : Launch) (G : GE) {ad : Nat → Nat} {M : WM} {O S : RW} {X : WM} {P : WM} {nT mm : Nat} (rp : RP P S nT mm) {v y : Int32} (hm : mm + 61 < 2 ^ 31) (hM : M = mkM O S X)  : CT l G yX6_comes cX6_comes 4 (some .int) 4 [.ref (ad 0), .int v, .int y] 14 ad (shM G ad) M (PI (fun r u => r = (if (isTl P v ∧ isHo y) then huS 61 P (ix v) (1 <<< (y &&& 31)) 0 else -1) ∧ ∃ S' X', u = mkM O S' X' ∧ EqX X X' ∧ EqS S S')) := by
  refine CT.of (own := RX6) rfl rfl (le_b rfl) fun p e s m args below meth c A C0 hr => ?_
  refine AW.lo (ls2 := [(0, _), (1, _), (2, _)]) rfl ?_
  subst hM
  refine a_aload_n C0 0 dX6_comes_0 rfl rfl ?_
  refine a_iload_n C0 1 dX6_comes_1 rfl rfl ?_
  refine a_callV _ 1 C0 EM.refl (c_X6_isOne l G rp  rfl) u_c_X6_isOne u_m_X6_173 u_im_X6_isOne u_se_X6_isOne u_in_X6 hy_X6_isOne rfl (lt_b rfl) rfl (hRk rfl) rfl rfl (le_b rfl) dX6_comes_2 (k_ro EM.refl ?_)
  refine a_if_eqb C0 15 dX6_comes_5 rfl (fun h5 => ?_) (fun h5 => ?_)
  · refine a_iconst C0 (-1) dX6_comes_15 rfl ?_
    refine a_iret C0 hr dX6_comes_16 ?_
    have hc : ¬ (isTl P v ∧ isHo y) := fun q => by
      first
        | exact h5 q.1
        | exact h12 q.2
    exact ⟨_, rfl, (if_neg hc).symm, _, _, rfl, EqX.refl _, EqS.refl _⟩
  · refine a_iload_n C0 2 dX6_comes_8 rfl rfl ?_
    refine a_callS _ 1 C0 EM.z (c_X6_isHouse l G) u_c_X6_isHouse u_m_X6_164 u_st_X6_isHouse u_in_X6 hy_X6_isHouse.2 (hRk rfl) rfl rfl (le_b rfl) dX6_comes_9 (k_ro EM.z ?_)
    refine a_if_neb C0 17 dX6_comes_12 rfl (fun h12 => ?_) (fun h12 => ?_)
    · have hv := (isTl_in rp.w).mp h5
      have hx : IX v (ix v) nT := IX.v hv
      refine a_aload_n C0 0 dX6_comes_17 rfl rfl ?_
      refine a_iload_n C0 1 dX6_comes_18 rfl rfl ?_
      refine a_iconst C0 1 dX6_comes_19 rfl ?_
      refine a_iload_n C0 2 dX6_comes_20 rfl rfl ?_
      refine a_ishl C0 dX6_comes_21 ?_
      refine a_bipush C0 60 dX6_comes_22 rfl ?_
      refine a_callV _ 3 C0 EM.refl (c_X6_heardBy l G (yn := 60) rp hx rfl (by decide) hm rfl) u_c_X6_heardBy u_m_X6_233 u_im_X6_heardBy u_se_X6_heardBy u_in_X6 hy_X6_heardBy rfl (lt_b rfl) rfl (hRk rfl) rfl rfl (le_b rfl) dX6_comes_24 (k_i fun r24 u24 q24 => ?_)
      obtain ⟨rfl, S3, X3, rfl, hX, hS⟩ := q24
      refine a_istore_n (ls2 := [(3, _), (0, _), (1, _), (2, _)]) C0 dX6_comes_27 rfl (lt_b rfl) rfl ?_
      refine a_iload_n C0 0 dX6_comes_28 rfl rfl ?_
      refine a_bipush C0 60 dX6_comes_29 rfl ?_
      refine a_icmp_gt C0 38 dX6_comes_31 rfl (fun h31 => ?_) (fun h31 => ?_)
      · refine a_bipush C0 (-3) dX6_comes_38 rfl ?_
        refine a_iret C0 hr dX6_comes_40 ?_
        have hc : (isTl P v ∧ isHo y) := ⟨h5, h12⟩
        first
          | exact ⟨_, rfl, (((hu_c 60 (by decide)).1 h31).symm).trans (if_pos hc).symm, _, _, rfl, hX, hS⟩
          | exact ⟨_, rfl, ((hu_c 60 (by decide)).2 (Int32.not_lt.mpr h31)).2.trans (if_pos hc).symm, _, _, rfl, hX, hS⟩
          | exact ⟨_, rfl, ((hu_c 60 (by decide)).2 h31).2.trans (if_pos hc).symm, _, _, rfl, hX, hS⟩
      · refine a_iload_n C0 0 dX6_comes_34 rfl rfl ?_
        refine a_goto C0 40 dX6_comes_35 rfl ?_
        refine a_iret C0 hr dX6_comes_40 ?_
        have hc : (isTl P v ∧ isHo y) := ⟨h5, h12⟩
        first
          | exact ⟨_, rfl, (((hu_c 60 (by decide)).1 h31).symm).trans (if_pos hc).symm, _, _, rfl, hX, hS⟩
          | exact ⟨_, rfl, ((hu_c 60 (by decide)).2 (Int32.not_lt.mpr h31)).2.trans (if_pos hc).symm, _, _, rfl, hX, hS⟩
          | exact ⟨_, rfl, ((hu_c 60 (by decide)).2 h31).2.trans (if_pos hc).symm, _, _, rfl, hX, hS⟩
    · refine a_iconst C0 (-1) dX6_comes_15 rfl ?_
      refine a_iret C0 hr dX6_comes_16 ?_
      have hc : ¬ (isTl P v ∧ isHo y) := fun q => by
        first
          | exact h5 q.1
          | exact h12 q.2
      exact ⟨_, rfl, (if_neg hc).symm, _, _, rfl, EqX.refl _, EqS.refl _⟩
set_option maxRecDepth 100000 in
set_option maxHeartbeats 4000000 in
theorem c_X6_whole (l : Launch) (G : GE) {ad : Nat → Nat} {M : WM} {O S : RW} {X : WM} {P : WM} {nT mm : Nat} (rp : RP P S nT mm) {v : Int32} (hm : mm + 61 < 2 ^ 31) (hM : M = mkM O S X)  : CT l G yX6_whole cX6_whole 3 (some .int) 4 [.ref (ad 0), .int v] 14 ad (shM G ad) M (PI (fun r u => r = (if isTl P v then huS 61 P (ix v) 255 0 else -1) ∧ ∃ S' X', u = mkM O S' X' ∧ EqX X X' ∧ EqS S S')) := by
  refine CT.of (own := RX6) rfl rfl (le_b rfl) fun p e s m args below meth c A C0 hr => ?_
  refine AW.lo (ls2 := [(0, _), (1, _)]) rfl ?_
  subst hM
  refine a_aload_n C0 0 dX6_whole_0 rfl rfl ?_
  refine a_iload_n C0 1 dX6_whole_1 rfl rfl ?_
  refine a_callV _ 1 C0 EM.refl (c_X6_isOne l G rp  rfl) u_c_X6_isOne u_m_X6_173 u_im_X6_isOne u_se_X6_isOne u_in_X6 hy_X6_isOne rfl (lt_b rfl) rfl (hRk rfl) rfl rfl (le_b rfl) dX6_whole_2 (k_ro EM.refl ?_)
  refine a_if_neb C0 10 dX6_whole_5 rfl (fun h5 => ?_) (fun h5 => ?_)
  · have hv := (isTl_in rp.w).mp h5
    have hx : IX v (ix v) nT := IX.v hv
    refine a_aload_n C0 0 dX6_whole_10 rfl rfl ?_
    refine a_iload_n C0 1 dX6_whole_11 rfl rfl ?_
    refine a_sipush C0 255 dX6_whole_12 rfl ?_
    refine a_bipush C0 60 dX6_whole_15 rfl ?_
    refine a_callV _ 3 C0 EM.refl (c_X6_heardBy l G (yn := 60) rp hx rfl (by decide) hm rfl) u_c_X6_heardBy u_m_X6_233 u_im_X6_heardBy u_se_X6_heardBy u_in_X6 hy_X6_heardBy rfl (lt_b rfl) rfl (hRk rfl) rfl rfl (le_b rfl) dX6_whole_17 (k_i fun r17 u17 q17 => ?_)
    obtain ⟨rfl, S3, X3, rfl, hX, hS⟩ := q17
    refine a_istore_n (ls2 := [(2, _), (0, _), (1, _)]) C0 dX6_whole_20 rfl (lt_b rfl) rfl ?_
    refine a_iload_n C0 0 dX6_whole_21 rfl rfl ?_
    refine a_bipush C0 60 dX6_whole_22 rfl ?_
    refine a_icmp_gt C0 31 dX6_whole_24 rfl (fun h24 => ?_) (fun h24 => ?_)
    · refine a_bipush C0 (-3) dX6_whole_31 rfl ?_
      refine a_iret C0 hr dX6_whole_33 ?_
      first
        | exact ⟨_, rfl, (((hu_c 60 (by decide)).1 h24).symm).trans (if_pos h5).symm, _, _, rfl, hX, hS⟩
        | exact ⟨_, rfl, ((hu_c 60 (by decide)).2 h24).2.trans (if_pos h5).symm, _, _, rfl, hX, hS⟩
    · refine a_iload_n C0 0 dX6_whole_27 rfl rfl ?_
      refine a_goto C0 33 dX6_whole_28 rfl ?_
      refine a_iret C0 hr dX6_whole_33 ?_
      first
        | exact ⟨_, rfl, (((hu_c 60 (by decide)).1 h24).symm).trans (if_pos h5).symm, _, _, rfl, hX, hS⟩
        | exact ⟨_, rfl, ((hu_c 60 (by decide)).2 h24).2.trans (if_pos h5).symm, _, _, rfl, hX, hS⟩
  · refine a_iconst C0 (-1) dX6_whole_8 rfl ?_
    refine a_iret C0 hr dX6_whole_9 ?_
    exact ⟨_, rfl, (if_neg h5).symm, _, _, rfl, EqX.refl _, EqS.refl _⟩
set_option maxRecDepth 100000 in
set_option maxHeartbeats 4000000 in
theorem c_X6_cold (l : Launch) (G : GE) {ad : Nat → Nat} {M : WM} {O S : RW} {X : WM} {P : WM} {nT mm : Nat} (rp : RP P S nT mm) {v : Int32} (hm : mm + 61 < 2 ^ 31) (hM : M = mkM O S X)  : CT l G yX6_cold cX6_cold 3 (some .int) 3 [.ref (ad 0), .int v] 14 ad (shM G ad) M (PI (fun r u => r = (if isTl P v then coS 61 P (ix v) 0 else -1) ∧ ∃ S' X', u = mkM O S' X' ∧ EqX X X' ∧ EqS S S')) := by
  refine CT.of (own := RX6) rfl rfl (le_b rfl) fun p e s m args below meth c A C0 hr => ?_
  refine AW.lo (ls2 := [(0, _), (1, _)]) rfl ?_
  subst hM
  have lp : ∀ (n : Nat) (i : Nat) (xi : Int32) (P2 Q2 : WM) (S2 : RW), 61 - i < n → (i ≤ 61) → (xi = nI i) → (isTl P v) → (RP P2 S2 nT (mm + i)) → (Sm (ix v) P2 Q2) → (coS (61 - i) Q2 (ix v) i = coS 61 P (ix v) 0) → AW p l e (rmk 3) s m args below meth c G A 14 ad (shM G ad) 3 0 0 (MQ below (CQ G 14 ad (shM G ad) A (PI (fun r u => r = (if isTl P v then coS 61 P (ix v) 0 else -1) ∧ ∃ S' X', u = mkM O S' X' ∧ EqX X X' ∧ EqS S S'))) args s 0 0 A) 23 [(0, .ref (ad 0)), (1, .int v), (2, .int xi)] [] (mkM O S2 (stX X 3 (cp63 S (X 3)))) := by
    intro n
    induction n with
    | zero =>
      intro i xi P2 Q2 S2 hn
      exact absurd hn (Nat.not_lt_zero _)
    | succ n ih =>
      intro i xi P2 Q2 S2 hn hi hxi h5 rp3 sm hmv
      have hv := (isTl_in rp.w).mp h5
      have hx : IX v (ix v) nT := IX.v hv
      refine a_iload_n C0 2 dX6_cold_23 rfl rfl ?_
      refine a_bipush C0 60 dX6_cold_24 rfl ?_
      refine a_icmp_gt C0 48 dX6_cold_26 rfl (fun h26 => ?_) (fun h26 => ?_)
      · refine a_aload_n C0 0 dX6_cold_48 rfl rfl ?_
        refine g_X6_16 C0 (lt_b rfl) rfl rfl dX6_cold_49 ?_
        refine a_aload_n C0 0 dX6_cold_52 rfl rfl ?_
        refine g_X6_7 C0 (lt_b rfl) rfl rfl dX6_cold_53 ?_
        refine a_callS _ 2 C0 em_MC31 (c_X6_copyRow l G (ad := fun k => ad (io2 3 1 1 k))) u_c_X6_copyRow u_m_X6_144 u_st_X6_copyRow u_in_X6 hy_X6_copyRow.2 (hRk rfl) rfl rfl (le_b rfl) dX6_cold_56 (k_vo ?_)
        refine AW.cg (M := mkM O (cp63 ((stX X 3 (cp63 S (X 3))) 3) S2) (stX (stX X 3 (cp63 S (X 3))) 3 ((stX X 3 (cp63 S (X 3))) 3))) (fun q _ => by match q with | 0 => rfl | 1 => rfl | q + 2 => rfl) ?_
        refine a_iload_n C0 2 dX6_cold_59 rfl rfl ?_
        refine a_bipush C0 60 dX6_cold_60 rfl ?_
        refine a_icmp_gt C0 69 dX6_cold_62 rfl (fun h62 => ?_) (fun h62 => ?_)
        · refine a_bipush C0 (-3) dX6_cold_69 rfl ?_
          refine a_iret C0 hr dX6_cold_71 ?_
          refine ⟨_, rfl, ?_, _, _, rfl, EqX.tr, EqS.back⟩
          rw [if_pos h5, ← hmv]
          first
            | (have hge : 60 < i := by
                 rw [hxi] at h26
                 exact (nI_ltI (a := 60) (by decide) (by omega)).mp h26
               rw [show 61 - i = 0 by omega]
               first
                 | rfl
                 | (exfalso
                    rw [hxi] at h62
                    exact h62 (nI_lt (a := 60) hge (by omega))))
            | (have e : coS (61 - i) Q2 (ix v) i = nI i := by
                 rw [show 61 - i = (61 - (i + 1)) + 1 by omega]
                 refine if_pos ?_
                 rw [← sm.he]
                 obtain ⟨j, hj, ej⟩ := vp_in_of (rp3.hew _ hx.lt) (by decide)
                 rw [ej] at h35 ⊢
                 rcases Nat.eq_zero_or_pos j with q | q
                 · rw [q]
                   rfl
                 · exact absurd h35 (Int32.not_le.mpr (nI_lt (a := 0) q (by omega)))
               rw [e]
               first
                 | exact hxi
                 | (exfalso
                    rw [hxi] at h62
                    exact absurd ((nI_ltI (a := 60) (by decide) (by omega)).mp h62) (by omega)))
        · refine a_iload_n C0 2 dX6_cold_65 rfl rfl ?_
          refine a_goto C0 71 dX6_cold_66 rfl ?_
          refine a_iret C0 hr dX6_cold_71 ?_
          refine ⟨_, rfl, ?_, _, _, rfl, EqX.tr, EqS.back⟩
          rw [if_pos h5, ← hmv]
          first
            | (have hge : 60 < i := by
                 rw [hxi] at h26
                 exact (nI_ltI (a := 60) (by decide) (by omega)).mp h26
               rw [show 61 - i = 0 by omega]
               first
                 | rfl
                 | (exfalso
                    rw [hxi] at h62
                    exact h62 (nI_lt (a := 60) hge (by omega))))
            | (have e : coS (61 - i) Q2 (ix v) i = nI i := by
                 rw [show 61 - i = (61 - (i + 1)) + 1 by omega]
                 refine if_pos ?_
                 rw [← sm.he]
                 obtain ⟨j, hj, ej⟩ := vp_in_of (rp3.hew _ hx.lt) (by decide)
                 rw [ej] at h35 ⊢
                 rcases Nat.eq_zero_or_pos j with q | q
                 · rw [q]
                   rfl
                 · exact absurd h35 (Int32.not_le.mpr (nI_lt (a := 0) q (by omega)))
               rw [e]
               first
                 | exact hxi
                 | (exfalso
                    rw [hxi] at h62
                    exact absurd ((nI_ltI (a := 60) (by decide) (by omega)).mp h62) (by omega)))
      · have hle : i ≤ 60 := Nat.not_lt.mp fun z => h26 (by rw [hxi]; exact nI_lt (a := 60) z (by omega))
        refine a_aload_n C0 0 dX6_cold_29 rfl rfl ?_
        refine a_iload_n C0 1 dX6_cold_30 rfl rfl ?_
        refine a_iconst C0 1 dX6_cold_31 rfl ?_
        refine a_callV _ 2 C0 EM.refl (c_X6_its l G (c := 5) rp3 hx ⟨vq rfl, rfl⟩ rfl rfl) u_c_X6_its u_m_X6_167 u_im_X6_its u_se_X6_its u_in_X6 hy_X6_its rfl (lt_b rfl) rfl (hRk rfl) rfl rfl (le_b rfl) dX6_cold_32 (k_ro EM.refl ?_)
        refine a_if_le C0 48 dX6_cold_35 rfl (fun h35 => ?_) (fun h35 => ?_)
        · refine a_aload_n C0 0 dX6_cold_48 rfl rfl ?_
          refine g_X6_16 C0 (lt_b rfl) rfl rfl dX6_cold_49 ?_
          refine a_aload_n C0 0 dX6_cold_52 rfl rfl ?_
          refine g_X6_7 C0 (lt_b rfl) rfl rfl dX6_cold_53 ?_
          refine a_callS _ 2 C0 em_MC31 (c_X6_copyRow l G (ad := fun k => ad (io2 3 1 1 k))) u_c_X6_copyRow u_m_X6_144 u_st_X6_copyRow u_in_X6 hy_X6_copyRow.2 (hRk rfl) rfl rfl (le_b rfl) dX6_cold_56 (k_vo ?_)
          refine AW.cg (M := mkM O (cp63 ((stX X 3 (cp63 S (X 3))) 3) S2) (stX (stX X 3 (cp63 S (X 3))) 3 ((stX X 3 (cp63 S (X 3))) 3))) (fun q _ => by match q with | 0 => rfl | 1 => rfl | q + 2 => rfl) ?_
          refine a_iload_n C0 2 dX6_cold_59 rfl rfl ?_
          refine a_bipush C0 60 dX6_cold_60 rfl ?_
          refine a_icmp_gt C0 69 dX6_cold_62 rfl (fun h62 => ?_) (fun h62 => ?_)
          · refine a_bipush C0 (-3) dX6_cold_69 rfl ?_
            refine a_iret C0 hr dX6_cold_71 ?_
            refine ⟨_, rfl, ?_, _, _, rfl, EqX.tr, EqS.back⟩
            rw [if_pos h5, ← hmv]
            first
              | (have hge : 60 < i := by
                   rw [hxi] at h26
                   exact (nI_ltI (a := 60) (by decide) (by omega)).mp h26
                 rw [show 61 - i = 0 by omega]
                 first
                   | rfl
                   | (exfalso
                      rw [hxi] at h62
                      exact h62 (nI_lt (a := 60) hge (by omega))))
              | (have e : coS (61 - i) Q2 (ix v) i = nI i := by
                   rw [show 61 - i = (61 - (i + 1)) + 1 by omega]
                   refine if_pos ?_
                   rw [← sm.he]
                   obtain ⟨j, hj, ej⟩ := vp_in_of (rp3.hew _ hx.lt) (by decide)
                   rw [ej] at h35 ⊢
                   rcases Nat.eq_zero_or_pos j with q | q
                   · rw [q]
                     rfl
                   · exact absurd h35 (Int32.not_le.mpr (nI_lt (a := 0) q (by omega)))
                 rw [e]
                 first
                   | exact hxi
                   | (exfalso
                      rw [hxi] at h62
                      exact absurd ((nI_ltI (a := 60) (by decide) (by omega)).mp h62) (by omega)))
          · refine a_iload_n C0 2 dX6_cold_65 rfl rfl ?_
            refine a_goto C0 71 dX6_cold_66 rfl ?_
            refine a_iret C0 hr dX6_cold_71 ?_
            refine ⟨_, rfl, ?_, _, _, rfl, EqX.tr, EqS.back⟩
            rw [if_pos h5, ← hmv]
            first
              | (have hge : 60 < i := by
                   rw [hxi] at h26
                   exact (nI_ltI (a := 60) (by decide) (by omega)).mp h26
                 rw [show 61 - i = 0 by omega]
                 first
                   | rfl
                   | (exfalso
                      rw [hxi] at h62
                      exact h62 (nI_lt (a := 60) hge (by omega))))
              | (have e : coS (61 - i) Q2 (ix v) i = nI i := by
                   rw [show 61 - i = (61 - (i + 1)) + 1 by omega]
                   refine if_pos ?_
                   rw [← sm.he]
                   obtain ⟨j, hj, ej⟩ := vp_in_of (rp3.hew _ hx.lt) (by decide)
                   rw [ej] at h35 ⊢
                   rcases Nat.eq_zero_or_pos j with q | q
                   · rw [q]
                     rfl
                   · exact absurd h35 (Int32.not_le.mpr (nI_lt (a := 0) q (by omega)))
                 rw [e]
                 first
                   | exact hxi
                   | (exfalso
                      rw [hxi] at h62
                      exact absurd ((nI_ltI (a := 60) (by decide) (by omega)).mp h62) (by omega)))
        · refine a_aload_n C0 0 dX6_cold_38 rfl rfl ?_
          refine a_callV _ 0 C0 EM.refl (c_X6_goesOn l G rp3 (by omega) rfl) u_c_X6_goesOn u_m_X6_201 u_im_X6_goesOn u_se_X6_goesOn u_in_X6 hy_X6_goesOn rfl (lt_b rfl) rfl (hRk rfl) rfl rfl (le_b rfl) dX6_cold_39 (k_v fun u39 q39 => ?_)
          obtain ⟨S4, rfl, rp4⟩ := q39
          refine a_iinc (ls2 := [(2, _), (0, _), (1, _)]) C0 2 1 dX6_cold_42 rfl rfl (lt_b rfl) rfl ?_
          refine a_goto C0 23 dX6_cold_45 rfl ?_
          refine AW.sub (ls2 := [(0, _), (1, _), (2, _)]) [1, 2, 0] rfl ?_
          exact ih (i + 1) _ _ _ _ (by omega) (by omega) (by rw [hxi, nI_1]) h5 rp4 (sm.pass hx.lt) (by
            rw [← hmv, show 61 - i = (61 - (i + 1)) + 1 by omega]
            refine (if_neg fun q => ?_).symm
            rw [← sm.he] at q
            exact h35 (by rw [q]; decide))
  refine a_aload_n C0 0 dX6_cold_0 rfl rfl ?_
  refine a_iload_n C0 1 dX6_cold_1 rfl rfl ?_
  refine a_callV _ 1 C0 EM.refl (c_X6_isOne l G rp  rfl) u_c_X6_isOne u_m_X6_173 u_im_X6_isOne u_se_X6_isOne u_in_X6 hy_X6_isOne rfl (lt_b rfl) rfl (hRk rfl) rfl rfl (le_b rfl) dX6_cold_2 (k_ro EM.refl ?_)
  refine a_if_neb C0 10 dX6_cold_5 rfl (fun h5 => ?_) (fun h5 => ?_)
  · refine a_aload_n C0 0 dX6_cold_10 rfl rfl ?_
    refine g_X6_7 C0 (lt_b rfl) rfl rfl dX6_cold_11 ?_
    refine a_aload_n C0 0 dX6_cold_14 rfl rfl ?_
    refine g_X6_16 C0 (lt_b rfl) rfl rfl dX6_cold_15 ?_
    refine a_callS _ 2 C0 em_MC13 (c_X6_copyRow l G (ad := fun k => ad (io2 1 1 3 k))) u_c_X6_copyRow u_m_X6_144 u_st_X6_copyRow u_in_X6 hy_X6_copyRow.2 (hRk rfl) rfl rfl (le_b rfl) dX6_cold_18 (k_vo ?_)
    refine AW.cg (M := mkM O S (stX X 3 (cp63 S (X 3)))) (fun q _ => by match q with | 0 => rfl | 1 => rfl | q + 2 => rfl) ?_
    refine a_iconst C0 0 dX6_cold_21 rfl ?_
    refine a_istore_n (ls2 := [(2, _), (0, _), (1, _)]) C0 dX6_cold_22 rfl (lt_b rfl) rfl ?_
    refine AW.sub (ls2 := [(0, _), (1, _), (2, _)]) [1, 2, 0] rfl ?_
    exact lp 62 0 _ _ _ _ (by omega) (Nat.zero_le _) rfl h5 rp (Sm.refl _ _) rfl
  · refine a_iconst C0 (-1) dX6_cold_8 rfl ?_
    refine a_iret C0 hr dX6_cold_9 ?_
    exact ⟨_, rfl, (if_neg h5).symm, _, _, rfl, EqX.refl _, EqS.refl _⟩
set_option maxRecDepth 100000 in
set_option maxHeartbeats 4000000 in
theorem c_X6_home (l : Launch) (G : GE) {ad : Nat → Nat} {M : WM} {O S : RW} {X : WM} {P : WM} {nT mm : Nat} (rp : RP P S nT mm) {v : Int32} (hm : mm + 61 < 2 ^ 31) (hM : M = mkM O S X)  : CT l G yX6_home cX6_home 5 (some .int) 3 [.ref (ad 0), .int v] 14 ad (shM G ad) M (PI (fun r u => r = (if isTl P v then hoS 60 P (ix v) (P 6 (ix v)) 1 else -1) ∧ ∃ S' X', u = mkM O S' X' ∧ EqX X X' ∧ EqS S S')) := by
  refine CT.of (own := RX6) rfl rfl (le_b rfl) fun p e s m args below meth c A C0 hr => ?_
  refine AW.lo (ls2 := [(0, _), (1, _)]) rfl ?_
  subst hM
  have lp : ∀ (n : Nat) (i : Nat) (xi b : Int32) (P2 Q2 : WM) (S2 : RW), 60 - i < n → (i ≤ 60) → (xi = nI i) → (isTl P v) → (RP P2 S2 nT (mm + i)) → (Sm (ix v) P2 Q2) → ((b = 0 ∧ hoS (60 - i) Q2 (ix v) (P 6 (ix v)) (i + 1) = hoS 60 P (ix v) (P 6 (ix v)) 1) ∨ (b = 1 ∧ hoS 60 P (ix v) (P 6 (ix v)) 1 = nI i)) → AW p l e (rmk 3) s m args below meth c G A 14 ad (shM G ad) 5 0 0 (MQ below (CQ G 14 ad (shM G ad) A (PI (fun r u => r = (if isTl P v then hoS 60 P (ix v) (P 6 (ix v)) 1 else -1) ∧ ∃ S' X', u = mkM O S' X' ∧ EqX X X' ∧ EqS S S'))) args s 0 0 A) 33 [(0, .ref (ad 0)), (1, .int v), (2, .int (P 6 (ix v))), (3, .int xi), (4, .int b)] [] (mkM O S2 (stX X 3 (cp63 S (X 3)))) := by
    intro n
    induction n with
    | zero =>
      intro i xi b P2 Q2 S2 hn
      exact absurd hn (Nat.not_lt_zero _)
    | succ n ih =>
      intro i xi b P2 Q2 S2 hn hi hxi h5 rp3 sm hmv
      have hv := (isTl_in rp.w).mp h5
      have hx : IX v (ix v) nT := IX.v hv
      refine a_iload_n C0 3 dX6_home_33 rfl rfl ?_
      refine a_bipush C0 60 dX6_home_34 rfl ?_
      refine a_icmp_ge C0 80 dX6_home_36 rfl (fun h36 => ?_) (fun h36 => ?_)
      · refine a_aload_n C0 0 dX6_home_80 rfl rfl ?_
        refine g_X6_16 C0 (lt_b rfl) rfl rfl dX6_home_81 ?_
        refine a_aload_n C0 0 dX6_home_84 rfl rfl ?_
        refine g_X6_7 C0 (lt_b rfl) rfl rfl dX6_home_85 ?_
        refine a_callS _ 2 C0 em_MC31 (c_X6_copyRow l G (ad := fun k => ad (io2 3 1 1 k))) u_c_X6_copyRow u_m_X6_144 u_st_X6_copyRow u_in_X6 hy_X6_copyRow.2 (hRk rfl) rfl rfl (le_b rfl) dX6_home_88 (k_vo ?_)
        refine AW.cg (M := mkM O (cp63 ((stX X 3 (cp63 S (X 3))) 3) S2) (stX (stX X 3 (cp63 S (X 3))) 3 ((stX X 3 (cp63 S (X 3))) 3))) (fun q _ => by match q with | 0 => rfl | 1 => rfl | q + 2 => rfl) ?_
        refine a_iload C0 4 dX6_home_91 rfl ?_
        refine a_if_eq C0 100 dX6_home_93 rfl (fun h93 => ?_) (fun h93 => ?_)
        · refine a_bipush C0 (-3) dX6_home_100 rfl ?_
          refine a_iret C0 hr dX6_home_102 ?_
          refine ⟨_, rfl, ?_, _, _, rfl, EqX.tr, EqS.back⟩
          rw [if_pos h5]
          rcases hmv with ⟨b0, q⟩ | ⟨b1, q⟩
          · first
              | exact absurd b0 h93
              | exact absurd b0 h41
              | (have hge : i = 60 := Nat.le_antisymm hi (i_ge (T := 60) hxi rfl (by omega) (by omega) h36)
                 rw [← q, hge]
                 rfl)
          · first
              | exact absurd (h93.symm.trans b1) (by decide)
              | (rw [q]
                 exact hxi)
        · refine a_iload_n C0 3 dX6_home_96 rfl rfl ?_
          refine a_goto C0 102 dX6_home_97 rfl ?_
          refine a_iret C0 hr dX6_home_102 ?_
          refine ⟨_, rfl, ?_, _, _, rfl, EqX.tr, EqS.back⟩
          rw [if_pos h5]
          rcases hmv with ⟨b0, q⟩ | ⟨b1, q⟩
          · first
              | exact absurd b0 h93
              | exact absurd b0 h41
              | (have hge : i = 60 := Nat.le_antisymm hi (i_ge (T := 60) hxi rfl (by omega) (by omega) h36)
                 rw [← q, hge]
                 rfl)
          · first
              | exact absurd (h93.symm.trans b1) (by decide)
              | (rw [q]
                 exact hxi)
      · have hlt : i < 60 := i_lt (T := 60) hxi rfl (by omega) (by omega) h36
        refine a_iload C0 4 dX6_home_39 rfl ?_
        refine a_if_ne C0 80 dX6_home_41 rfl (fun h41 => ?_) (fun h41 => ?_)
        · refine a_aload_n C0 0 dX6_home_80 rfl rfl ?_
          refine g_X6_16 C0 (lt_b rfl) rfl rfl dX6_home_81 ?_
          refine a_aload_n C0 0 dX6_home_84 rfl rfl ?_
          refine g_X6_7 C0 (lt_b rfl) rfl rfl dX6_home_85 ?_
          refine a_callS _ 2 C0 em_MC31 (c_X6_copyRow l G (ad := fun k => ad (io2 3 1 1 k))) u_c_X6_copyRow u_m_X6_144 u_st_X6_copyRow u_in_X6 hy_X6_copyRow.2 (hRk rfl) rfl rfl (le_b rfl) dX6_home_88 (k_vo ?_)
          refine AW.cg (M := mkM O (cp63 ((stX X 3 (cp63 S (X 3))) 3) S2) (stX (stX X 3 (cp63 S (X 3))) 3 ((stX X 3 (cp63 S (X 3))) 3))) (fun q _ => by match q with | 0 => rfl | 1 => rfl | q + 2 => rfl) ?_
          refine a_iload C0 4 dX6_home_91 rfl ?_
          refine a_if_eq C0 100 dX6_home_93 rfl (fun h93 => ?_) (fun h93 => ?_)
          · refine a_bipush C0 (-3) dX6_home_100 rfl ?_
            refine a_iret C0 hr dX6_home_102 ?_
            refine ⟨_, rfl, ?_, _, _, rfl, EqX.tr, EqS.back⟩
            rw [if_pos h5]
            rcases hmv with ⟨b0, q⟩ | ⟨b1, q⟩
            · first
                | exact absurd b0 h93
                | exact absurd b0 h41
                | (have hge : i = 60 := Nat.le_antisymm hi (i_ge (T := 60) hxi rfl (by omega) (by omega) h36)
                   rw [← q, hge]
                   rfl)
            · first
                | exact absurd (h93.symm.trans b1) (by decide)
                | (rw [q]
                   exact hxi)
          · refine a_iload_n C0 3 dX6_home_96 rfl rfl ?_
            refine a_goto C0 102 dX6_home_97 rfl ?_
            refine a_iret C0 hr dX6_home_102 ?_
            refine ⟨_, rfl, ?_, _, _, rfl, EqX.tr, EqS.back⟩
            rw [if_pos h5]
            rcases hmv with ⟨b0, q⟩ | ⟨b1, q⟩
            · first
                | exact absurd b0 h93
                | exact absurd b0 h41
                | (have hge : i = 60 := Nat.le_antisymm hi (i_ge (T := 60) hxi rfl (by omega) (by omega) h36)
                   rw [← q, hge]
                   rfl)
            · first
                | exact absurd (h93.symm.trans b1) (by decide)
                | (rw [q]
                   exact hxi)
        · refine a_aload_n C0 0 dX6_home_44 rfl rfl ?_
          refine a_callV _ 0 C0 EM.refl (c_X6_goesOn l G rp3 (by omega) rfl) u_c_X6_goesOn u_m_X6_201 u_im_X6_goesOn u_se_X6_goesOn u_in_X6 hy_X6_goesOn rfl (lt_b rfl) rfl (hRk rfl) rfl rfl (le_b rfl) dX6_home_45 (k_v fun u45 q45 => ?_)
          obtain ⟨S4, rfl, rp4⟩ := q45
          refine a_aload_n C0 0 dX6_home_48 rfl rfl ?_
          refine a_iload_n C0 1 dX6_home_49 rfl rfl ?_
          refine a_iconst C0 2 dX6_home_50 rfl ?_
          refine a_callV _ 2 C0 EM.refl (c_X6_its l G (c := 6) rp4 hx ⟨vq rfl, rfl⟩ rfl rfl) u_c_X6_its u_m_X6_167 u_im_X6_its u_se_X6_its u_in_X6 hy_X6_its rfl (lt_b rfl) rfl (hRk rfl) rfl rfl (le_b rfl) dX6_home_51 (k_ro EM.refl ?_)
          refine a_iload_n C0 2 dX6_home_54 rfl rfl ?_
          refine a_icmp_ne C0 71 dX6_home_55 rfl (fun h55 => ?_) (fun h55 => ?_)
          · refine a_iconst C0 0 dX6_home_71 rfl ?_
            refine a_istore (ls2 := [(4, _), (0, _), (1, _), (2, _), (3, _)]) C0 dX6_home_72 (lt_b rfl) rfl ?_
            refine a_iinc (ls2 := [(3, _), (4, _), (0, _), (1, _), (2, _)]) C0 4 1 dX6_home_74 rfl rfl (lt_b rfl) rfl ?_
            refine a_goto C0 33 dX6_home_77 rfl ?_
            refine AW.sub (ls2 := [(0, _), (1, _), (2, _), (3, _), (4, _)]) [2, 3, 4, 0, 1] rfl ?_
            have hcm := (hmv.resolve_right fun q => absurd (h41.symm.trans q.1) (by decide)).2
            have hmn : minP Q2 (ix v) 6 (ix v) = passP P2 nT 6 (ix v) := (sm.pass hx.lt).at.symm
            have hmh : minP Q2 (ix v) 5 (ix v) = passP P2 nT 5 (ix v) := (sm.pass hx.lt).he.symm
            exact ih (i + 1) _ _ _ _ _ (by omega) (by omega) (by rw [hxi, nI_1]) h5 rp4 (sm.pass hx.lt) (by
              rw [← hcm, show 60 - i = (60 - (i + 1)) + 1 by omega]
              first
                | exact Or.inr ⟨rfl, if_pos ⟨hmn.trans h55, by rw [hmh]; exact Int32.not_le.mp h64⟩⟩
                | exact Or.inl ⟨rfl, (if_neg fun q => h55 (hmn.symm.trans q.1)).symm⟩
                | exact Or.inl ⟨rfl, (if_neg fun q => absurd q.2 (Int32.not_lt.mpr (by rw [hmh]; exact h64))).symm⟩)
          · refine a_aload_n C0 0 dX6_home_58 rfl rfl ?_
            refine a_iload_n C0 1 dX6_home_59 rfl rfl ?_
            refine a_iconst C0 1 dX6_home_60 rfl ?_
            refine a_callV _ 2 C0 EM.refl (c_X6_its l G (c := 5) rp4 hx ⟨vq rfl, rfl⟩ rfl rfl) u_c_X6_its u_m_X6_167 u_im_X6_its u_se_X6_its u_in_X6 hy_X6_its rfl (lt_b rfl) rfl (hRk rfl) rfl rfl (le_b rfl) dX6_home_61 (k_ro EM.refl ?_)
            refine a_if_le C0 71 dX6_home_64 rfl (fun h64 => ?_) (fun h64 => ?_)
            · refine a_iconst C0 0 dX6_home_71 rfl ?_
              refine a_istore (ls2 := [(4, _), (0, _), (1, _), (2, _), (3, _)]) C0 dX6_home_72 (lt_b rfl) rfl ?_
              refine a_iinc (ls2 := [(3, _), (4, _), (0, _), (1, _), (2, _)]) C0 4 1 dX6_home_74 rfl rfl (lt_b rfl) rfl ?_
              refine a_goto C0 33 dX6_home_77 rfl ?_
              refine AW.sub (ls2 := [(0, _), (1, _), (2, _), (3, _), (4, _)]) [2, 3, 4, 0, 1] rfl ?_
              have hcm := (hmv.resolve_right fun q => absurd (h41.symm.trans q.1) (by decide)).2
              have hmn : minP Q2 (ix v) 6 (ix v) = passP P2 nT 6 (ix v) := (sm.pass hx.lt).at.symm
              have hmh : minP Q2 (ix v) 5 (ix v) = passP P2 nT 5 (ix v) := (sm.pass hx.lt).he.symm
              exact ih (i + 1) _ _ _ _ _ (by omega) (by omega) (by rw [hxi, nI_1]) h5 rp4 (sm.pass hx.lt) (by
                rw [← hcm, show 60 - i = (60 - (i + 1)) + 1 by omega]
                first
                  | exact Or.inr ⟨rfl, if_pos ⟨hmn.trans h55, by rw [hmh]; exact Int32.not_le.mp h64⟩⟩
                  | exact Or.inl ⟨rfl, (if_neg fun q => h55 (hmn.symm.trans q.1)).symm⟩
                  | exact Or.inl ⟨rfl, (if_neg fun q => absurd q.2 (Int32.not_lt.mpr (by rw [hmh]; exact h64))).symm⟩)
            · refine a_iconst C0 1 dX6_home_67 rfl ?_
              refine a_goto C0 72 dX6_home_68 rfl ?_
              refine a_istore (ls2 := [(4, _), (0, _), (1, _), (2, _), (3, _)]) C0 dX6_home_72 (lt_b rfl) rfl ?_
              refine a_iinc (ls2 := [(3, _), (4, _), (0, _), (1, _), (2, _)]) C0 4 1 dX6_home_74 rfl rfl (lt_b rfl) rfl ?_
              refine a_goto C0 33 dX6_home_77 rfl ?_
              refine AW.sub (ls2 := [(0, _), (1, _), (2, _), (3, _), (4, _)]) [2, 3, 4, 0, 1] rfl ?_
              have hcm := (hmv.resolve_right fun q => absurd (h41.symm.trans q.1) (by decide)).2
              have hmn : minP Q2 (ix v) 6 (ix v) = passP P2 nT 6 (ix v) := (sm.pass hx.lt).at.symm
              have hmh : minP Q2 (ix v) 5 (ix v) = passP P2 nT 5 (ix v) := (sm.pass hx.lt).he.symm
              exact ih (i + 1) _ _ _ _ _ (by omega) (by omega) (by rw [hxi, nI_1]) h5 rp4 (sm.pass hx.lt) (by
                rw [← hcm, show 60 - i = (60 - (i + 1)) + 1 by omega]
                first
                  | exact Or.inr ⟨rfl, if_pos ⟨hmn.trans h55, by rw [hmh]; exact Int32.not_le.mp h64⟩⟩
                  | exact Or.inl ⟨rfl, (if_neg fun q => h55 (hmn.symm.trans q.1)).symm⟩
                  | exact Or.inl ⟨rfl, (if_neg fun q => absurd q.2 (Int32.not_lt.mpr (by rw [hmh]; exact h64))).symm⟩)
  refine a_aload_n C0 0 dX6_home_0 rfl rfl ?_
  refine a_iload_n C0 1 dX6_home_1 rfl rfl ?_
  refine a_callV _ 1 C0 EM.refl (c_X6_isOne l G rp  rfl) u_c_X6_isOne u_m_X6_173 u_im_X6_isOne u_se_X6_isOne u_in_X6 hy_X6_isOne rfl (lt_b rfl) rfl (hRk rfl) rfl rfl (le_b rfl) dX6_home_2 (k_ro EM.refl ?_)
  refine a_if_neb C0 10 dX6_home_5 rfl (fun h5 => ?_) (fun h5 => ?_)
  · have hv := (isTl_in rp.w).mp h5
    have hx : IX v (ix v) nT := IX.v hv
    refine a_aload_n C0 0 dX6_home_10 rfl rfl ?_
    refine g_X6_7 C0 (lt_b rfl) rfl rfl dX6_home_11 ?_
    refine a_aload_n C0 0 dX6_home_14 rfl rfl ?_
    refine g_X6_16 C0 (lt_b rfl) rfl rfl dX6_home_15 ?_
    refine a_callS _ 2 C0 em_MC13 (c_X6_copyRow l G (ad := fun k => ad (io2 1 1 3 k))) u_c_X6_copyRow u_m_X6_144 u_st_X6_copyRow u_in_X6 hy_X6_copyRow.2 (hRk rfl) rfl rfl (le_b rfl) dX6_home_18 (k_vo ?_)
    refine AW.cg (M := mkM O S (stX X 3 (cp63 S (X 3)))) (fun q _ => by match q with | 0 => rfl | 1 => rfl | q + 2 => rfl) ?_
    have rp2 : RP P S nT mm := rp
    refine a_aload_n C0 0 dX6_home_21 rfl rfl ?_
    refine a_iload_n C0 1 dX6_home_22 rfl rfl ?_
    refine a_iconst C0 2 dX6_home_23 rfl ?_
    refine a_callV _ 2 C0 EM.refl (c_X6_its l G (c := 6) rp hx ⟨vq rfl, rfl⟩ rfl rfl) u_c_X6_its u_m_X6_167 u_im_X6_its u_se_X6_its u_in_X6 hy_X6_its rfl (lt_b rfl) rfl (hRk rfl) rfl rfl (le_b rfl) dX6_home_24 (k_ro EM.refl ?_)
    refine a_istore_n (ls2 := [(2, _), (0, _), (1, _)]) C0 dX6_home_27 rfl (lt_b rfl) rfl ?_
    refine a_iconst C0 0 dX6_home_28 rfl ?_
    refine a_istore_n (ls2 := [(3, _), (2, _), (0, _), (1, _)]) C0 dX6_home_29 rfl (lt_b rfl) rfl ?_
    refine a_iconst C0 0 dX6_home_30 rfl ?_
    refine a_istore (ls2 := [(4, _), (3, _), (2, _), (0, _), (1, _)]) C0 dX6_home_31 (lt_b rfl) rfl ?_
    refine AW.sub (ls2 := [(0, _), (1, _), (2, _), (3, _), (4, _)]) [3, 4, 2, 1, 0] rfl ?_
    exact lp 61 0 _ _ _ _ _ (by omega) (Nat.zero_le _) rfl h5 rp (Sm.refl _ _) (Or.inl ⟨rfl, rfl⟩)
  · refine a_iconst C0 (-1) dX6_home_8 rfl ?_
    refine a_iret C0 hr dX6_home_9 ?_
    exact ⟨_, rfl, (if_neg h5).symm, _, _, rfl, EqX.refl _, EqS.refl _⟩
