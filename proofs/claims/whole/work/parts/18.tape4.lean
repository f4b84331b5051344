
theorem RE.f {b : Nat → Int32} {n : Nat} {P D : WM} {t : Tk} {R : RS} (h : TKS D b n t) (e : R = (false, P, t)) : RE b n R 0 (mkT P D) := by
  subst e
  exact ⟨rfl, D, rfl, h⟩
theorem RE.semi {b : Nat → Int32} {n : Nat} {P D : WM} {t : Tk} {R : RS} (h : TKS D b n t) (e : R = semiR b n P t) : RE b n R (bI (t.1 = 3 ∧ D 1 t.2.1 = 59)) (mkT P (if t.1 = 3 ∧ D 1 t.2.1 = 59 then advB D n t.2.2 else D)) := by
  subst e
  rw [h.2.1]
  unfold semiR
  by_cases c : t.1 = 3 ∧ b t.2.1 = 59
  · rw [if_pos c, if_pos c, bI_t c]
    exact ⟨rfl, _, rfl, h.adv⟩
  · rw [if_neg c, if_neg c, bI_f c]
    exact ⟨rfl, _, rfl, h⟩
theorem re_ {b : Nat → Int32} {n : Nat} {R : RS} {r : Int32} {u : WM} (h : RE b n R r u) : PI (RE b n R) (some (.int r)) u := ⟨r, rfl, h⟩
theorem st1_ok : ∀ i, i < 4 → ∃ v, (st_vals 1).getD i 0 = nI v ∧ v ≤ 99 := by
  intro i hi
  match i, hi with
  | 0, _ => exact ⟨9, rfl, by decide⟩
  | 1, _ => exact ⟨9, rfl, by decide⟩
  | 2, _ => exact ⟨99, rfl, by decide⟩
  | 3, _ => exact ⟨99, rfl, by decide⟩

set_option maxRecDepth 100000 in
set_option maxHeartbeats 4000000 in
theorem c_X4_readBox (l : Launch) (G : GE) {ad : Nat → Nat} {M : WM} {P D : WM} {b : Nat → Int32} {n : Nat} {t0 : Tk} (hM : M = mkT P D) (q0 : TKS D b n t0) : CT l G yX4_readBox cX4_readBox 2 (some .boolean) 3 [.ref (ad 8), .ref (ad 0)] 10 ad (shT G ad) M (PI (RE b n (rdBox b n P t0))) := by
  refine CT.of (own := RX4) rfl rfl (le_b rfl) fun p e s m args below meth c A C0 hr => ?_
  refine AW.lo (ls2 := [(0, _), (1, _)]) rfl ?_
  subst hM
  have q1 := q0.adv
  refine a_aload_n C0 0 dX4_readBox_0 rfl rfl ?_
  refine a_callV _ 0 C0 em_TBc (c_X4_advance l G q0.ts (ad := fun k => ad (8 + k))) u_c_X4_advance u_m_X4_25 u_im_X4_advance u_se_X4_advance u_in_X4 hy_X4_advance rfl (lt_b rfl) rfl (hRk rfl) rfl rfl (le_b rfl) dX4_readBox_1 (k_vo ?_)
  refine a_aload_n C0 0 dX4_readBox_4 rfl rfl ?_
  refine a_bipush C0 7 dX4_readBox_5 rfl ?_
  refine a_callV _ 1 C0 em_TBc (c_X4_isNumberTo l G q1.1 (ad := fun k => ad (8 + k))) u_c_X4_isNumberTo u_m_X4_81 u_im_X4_isNumberTo u_se_X4_isNumberTo u_in_X4 hy_X4_isNumberTo rfl (lt_b rfl) rfl (hRk rfl) rfl rfl (le_b rfl) dX4_readBox_7 (k_ro em_TBc ?_)
  rw [q1.2.1]
  refine a_if_neb C0 15 dX4_readBox_10 rfl (fun h10 => ?_) (fun h10 => ?_)
  · refine a_aload_n C0 1 dX4_readBox_15 rfl rfl ?_
    refine a_dup C0 dX4_readBox_16 rfl ?_
    refine g_X4_106 C0 (lt_b rfl) rfl rfl dX4_readBox_17 ?_
    refine a_iconst C0 1 dX4_readBox_20 rfl ?_
    refine a_aload_n C0 0 dX4_readBox_21 rfl rfl ?_
    refine a_callV _ 0 C0 em_TBc (c_X4_takeNumber l G q1.1 (ad := fun k => ad (8 + k))) u_c_X4_takeNumber u_m_X4_85 u_im_X4_takeNumber u_se_X4_takeNumber u_in_X4 hy_X4_takeNumber rfl (lt_b rfl) rfl (hRk rfl) rfl rfl (le_b rfl) dX4_readBox_22 (k_de ?_)
    have q2 := q1.adv
    refine a_ishl C0 dX4_readBox_25 ?_
    refine a_ior C0 dX4_readBox_26 ?_
    refine p_X4_106 C0 (lt_b rfl) rfl (lt_b rfl) rfl rfl dX4_readBox_27 ?_
    refine AW.congr (M := mkT (up2 P 0 7 (P 0 7 ||| 1 <<< (numT b (tk b n t0.2.2) &&& 31))) (advB (advB D n t0.2.2) n (tk b n t0.2.2).2.2)) (fun i hi => by
      rw [mkT_up (by decide)]
      rw [q1.2.1]
      rfl) ?_
    refine a_aload_n C0 0 dX4_readBox_30 rfl rfl ?_
    refine a_callV _ 0 C0 em_TBc (c_X4_passSemicolon l G q2.1 (ad := fun k => ad (8 + k))) u_c_X4_passSemicolon u_m_X4_94 u_im_X4_passSemicolon u_se_X4_passSemicolon u_in_X4 hy_X4_passSemicolon rfl (lt_b rfl) rfl (hRk rfl) rfl rfl (le_b rfl) dX4_readBox_31 (k_de ?_)
    refine a_zret C0 hr (bI_nar _) dX4_readBox_34 ?_
    refine re_ (RE.semi q2 ?_)
    unfold rdBox
    exact if_pos h10
  · refine a_iconst C0 0 dX4_readBox_13 rfl ?_
    refine a_zret C0 hr rfl dX4_readBox_14 ?_
    refine re_ (RE.f q1 ?_)
    unfold rdBox
    exact if_neg h10
set_option maxRecDepth 100000 in
set_option maxHeartbeats 4000000 in
theorem c_X4_readLaw (l : Launch) (G : GE) {ad : Nat → Nat} {M : WM} {P D : WM} {b : Nat → Int32} {n : Nat} {t0 : Tk} {law : Int32} (hl : vp_in law 4) (hM : M = mkT P D) (q0 : TKS D b n t0) : CT l G yX4_readLaw cX4_readLaw 3 (some .boolean) 3 [.ref (ad 8), .ref (ad 0), .int law] 10 ad (shT G ad) M (PI (RE b n (rdLaw b n law P t0))) := by
  refine CT.of (own := RX4) rfl rfl (le_b rfl) fun p e s m args below meth c A C0 hr => ?_
  refine AW.lo (ls2 := [(0, _), (1, _), (2, _)]) rfl ?_
  subst hM
  have q1 := q0.adv
  refine a_aload_n C0 0 dX4_readLaw_0 rfl rfl ?_
  refine a_callV _ 0 C0 em_TBc (c_X4_advance l G q0.ts (ad := fun k => ad (8 + k))) u_c_X4_advance u_m_X4_25 u_im_X4_advance u_se_X4_advance u_in_X4 hy_X4_advance rfl (lt_b rfl) rfl (hRk rfl) rfl rfl (le_b rfl) dX4_readLaw_1 (k_vo ?_)
  refine a_aload_n C0 0 dX4_readLaw_4 rfl rfl ?_
  refine a_getsN C0 1 (lt_b rfl) C0.nw.2.2.1 dX4_readLaw_5 ?_
  refine a_iload_n C0 2 dX4_readLaw_8 rfl rfl ?_
  refine a_ti C0 1 _ (lt_b rfl) hl rfl dX4_readLaw_9 ?_
  refine a_callV _ 1 C0 em_TBc (c_X4_isNumberTo l G q1.1 (ad := fun k => ad (8 + k))) u_c_X4_isNumberTo u_m_X4_81 u_im_X4_isNumberTo u_se_X4_isNumberTo u_in_X4 hy_X4_isNumberTo rfl (lt_b rfl) rfl (hRk rfl) rfl rfl (le_b rfl) dX4_readLaw_10 (k_ro em_TBc ?_)
  rw [q1.2.1]
  refine a_if_neb C0 18 dX4_readLaw_13 rfl (fun h13 => ?_) (fun h13 => ?_)
  · refine a_aload_n C0 1 dX4_readLaw_18 rfl rfl ?_
    refine g_X4_101 C0 (lt_b rfl) rfl rfl dX4_readLaw_19 ?_
    refine a_iload_n C0 2 dX4_readLaw_22 rfl rfl ?_
    refine a_aload_n C0 0 dX4_readLaw_23 rfl rfl ?_
    refine a_callV _ 0 C0 em_TBc (c_X4_takeNumber l G q1.1 (ad := fun k => ad (8 + k))) u_c_X4_takeNumber u_m_X4_85 u_im_X4_takeNumber u_se_X4_takeNumber u_in_X4 hy_X4_takeNumber rfl (lt_b rfl) rfl (hRk rfl) rfl rfl (le_b rfl) dX4_readLaw_24 (k_de ?_)
    have q2 := q1.adv
    refine a_iast C0 _ (lt_b rfl) (fun _ => rfl) hl rfl dX4_readLaw_27 ?_
    refine AW.congr (M := mkT (up2 P 1 (ix law) (numT b (tk b n t0.2.2))) (advB (advB D n t0.2.2) n (tk b n t0.2.2).2.2)) (fun i hi => by
      rw [mkT_up (by decide)]
      rw [q1.2.1]
      rfl) ?_
    refine a_aload_n C0 0 dX4_readLaw_28 rfl rfl ?_
    refine a_callV _ 0 C0 em_TBc (c_X4_passSemicolon l G q2.1 (ad := fun k => ad (8 + k))) u_c_X4_passSemicolon u_m_X4_94 u_im_X4_passSemicolon u_se_X4_passSemicolon u_in_X4 hy_X4_passSemicolon rfl (lt_b rfl) rfl (hRk rfl) rfl rfl (le_b rfl) dX4_readLaw_29 (k_de ?_)
    refine a_zret C0 hr (bI_nar _) dX4_readLaw_32 ?_
    refine re_ (RE.semi q2 ?_)
    unfold rdLaw
    exact if_pos h13
  · refine a_iconst C0 0 dX4_readLaw_16 rfl ?_
    refine a_zret C0 hr rfl dX4_readLaw_17 ?_
    refine re_ (RE.f q1 ?_)
    unfold rdLaw
    exact if_neg h13
set_option maxRecDepth 100000 in
set_option maxHeartbeats 4000000 in
theorem c_X4_readOfHouse_2 (l : Launch) (G : GE) {ad : Nat → Nat} {M : WM} {P D : WM} {b : Nat → Int32} {n : Nat} {t0 : Tk} {top : Int32} (hM : M = mkT P D) (q0 : TKS D b n t0) : CT l G yX4_readOfHouse cX4_readOfHouse 4 (some .boolean) 6 [.ref (ad 8), .ref (ad 2), .int top] 10 ad (shT G ad) M (PI (RE b n (rdHouse b n 2 top P t0))) := by
  refine CT.of (own := RX4) rfl rfl (le_b rfl) fun p e s m args below meth c A C0 hr => ?_
  refine AW.lo (ls2 := [(0, _), (1, _), (2, _)]) rfl ?_
  subst hM
  have q1 := q0.adv
  refine a_aload_n C0 0 dX4_readOfHouse_0 rfl rfl ?_
  refine a_callV _ 0 C0 em_TBc (c_X4_advance l G q0.ts (ad := fun k => ad (8 + k))) u_c_X4_advance u_m_X4_25 u_im_X4_advance u_se_X4_advance u_in_X4 hy_X4_advance rfl (lt_b rfl) rfl (hRk rfl) rfl rfl (le_b rfl) dX4_readOfHouse_1 (k_vo ?_)
  refine a_aload_n C0 0 dX4_readOfHouse_4 rfl rfl ?_
  refine a_bipush C0 7 dX4_readOfHouse_5 rfl ?_
  refine a_callV _ 1 C0 em_TBc (c_X4_isNumberTo l G q1.1 (ad := fun k => ad (8 + k))) u_c_X4_isNumberTo u_m_X4_81 u_im_X4_isNumberTo u_se_X4_isNumberTo u_in_X4 hy_X4_isNumberTo rfl (lt_b rfl) rfl (hRk rfl) rfl rfl (le_b rfl) dX4_readOfHouse_7 (k_ro em_TBc ?_)
  rw [q1.2.1]
  refine a_if_neb C0 15 dX4_readOfHouse_10 rfl (fun h10 => ?_) (fun h10 => ?_)
  · refine a_aload_n C0 0 dX4_readOfHouse_15 rfl rfl ?_
    refine a_callV _ 0 C0 em_TBc (c_X4_takeNumber l G q1.1 (ad := fun k => ad (8 + k))) u_c_X4_takeNumber u_m_X4_85 u_im_X4_takeNumber u_se_X4_takeNumber u_in_X4 hy_X4_takeNumber rfl (lt_b rfl) rfl (hRk rfl) rfl rfl (le_b rfl) dX4_readOfHouse_16 (k_de ?_)
    have q2 := q1.adv
    rw [q1.2.1]
    refine a_istore_n (ls2 := [(3, _), (0, _), (1, _), (2, _)]) C0 dX4_readOfHouse_19 rfl (lt_b rfl) rfl ?_
    refine a_aload_n C0 1 dX4_readOfHouse_20 rfl rfl ?_
    refine a_ldcS C0 15 (lt_b rfl) dX4_readOfHouse_21 ?_
    refine a_callV _ 1 C0 em_TBc (c_X4_passName l G (by decide) q2.1 (ad := fun k => ad (8 + k))) u_c_X4_passName u_m_X4_78 u_im_X4_passName u_se_X4_passName u_in_X4 hy_X4_passName rfl (lt_b rfl) rfl (hRk rfl) rfl rfl (le_b rfl) dX4_readOfHouse_23 (k_de ?_)
    rw [q2.2.1]
    refine a_if_eqb C0 37 dX4_readOfHouse_26 rfl (fun h26 => ?_) (fun h26 => ?_)
    · first
        | refine AW.congr (M := mkT P (advB (advB D n t0.2.2) n (tk b n t0.2.2).2.2)) (fun i hi => congrArg (fun D2 => shT G ad i (mkT P D2 i)) (if_neg h26)) ?_
        | skip
      refine a_iconst C0 0 dX4_readOfHouse_37 rfl ?_
      refine a_zret C0 hr rfl dX4_readOfHouse_38 ?_
      first
        | (refine re_ (RE.f q3 ?_)
           unfold rdHouse
           exact (if_pos h10).trans ((if_pos h26).trans (if_neg h34)))
        | (refine re_ (RE.f q2 ?_)
           unfold rdHouse
           exact (if_pos h10).trans (if_neg h26))
    · refine AW.congr (M := mkT P (advB (advB (advB D n t0.2.2) n (tk b n t0.2.2).2.2) n (tk b n (tk b n t0.2.2).2.2).2.2)) (fun i hi => congrArg (fun D2 => shT G ad i (mkT P D2 i)) (if_pos h26)) ?_
      have q3 := q2.adv
      refine a_aload_n C0 1 dX4_readOfHouse_29 rfl rfl ?_
      refine a_iload_n C0 3 dX4_readOfHouse_30 rfl rfl ?_
      refine a_callV _ 1 C0 em_TBc (c_X4_isNumberTo l G q3.1 (ad := fun k => ad (8 + k))) u_c_X4_isNumberTo u_m_X4_81 u_im_X4_isNumberTo u_se_X4_isNumberTo u_in_X4 hy_X4_isNumberTo rfl (lt_b rfl) rfl (hRk rfl) rfl rfl (le_b rfl) dX4_readOfHouse_31 (k_ro em_TBc ?_)
      rw [q3.2.1]
      refine a_if_neb C0 39 dX4_readOfHouse_34 rfl (fun h34 => ?_) (fun h34 => ?_)
      · refine a_aload_n C0 2 dX4_readOfHouse_39 rfl rfl ?_
        refine a_iload_n C0 0 dX4_readOfHouse_40 rfl rfl ?_
        refine a_aload_n C0 1 dX4_readOfHouse_41 rfl rfl ?_
        refine a_callV _ 0 C0 em_TBc (c_X4_takeNumber l G q3.1 (ad := fun k => ad (8 + k))) u_c_X4_takeNumber u_m_X4_85 u_im_X4_takeNumber u_se_X4_takeNumber u_in_X4 hy_X4_takeNumber rfl (lt_b rfl) rfl (hRk rfl) rfl rfl (le_b rfl) dX4_readOfHouse_42 (k_de ?_)
        have q4 := q3.adv
        rw [q3.2.1]
        refine a_iast C0 _ (lt_b rfl) (fun _ => rfl) (q1.idx h10) rfl dX4_readOfHouse_45 ?_
        refine AW.congr (M := mkT (up2 P 2 (ix (numT b (tk b n t0.2.2))) (numT b (tk b n (tk b n (tk b n t0.2.2).2.2).2.2))) (advB (advB (advB (advB D n t0.2.2) n (tk b n t0.2.2).2.2) n (tk b n (tk b n t0.2.2).2.2).2.2) n (tk b n (tk b n (tk b n t0.2.2).2.2).2.2).2.2)) (fun i hi => by
          rw [mkT_up (by decide)]
          rfl) ?_
        refine a_aload_n C0 1 dX4_readOfHouse_46 rfl rfl ?_
        refine a_callV _ 0 C0 em_TBc (c_X4_passSemicolon l G q4.1 (ad := fun k => ad (8 + k))) u_c_X4_passSemicolon u_m_X4_94 u_im_X4_passSemicolon u_se_X4_passSemicolon u_in_X4 hy_X4_passSemicolon rfl (lt_b rfl) rfl (hRk rfl) rfl rfl (le_b rfl) dX4_readOfHouse_47 (k_de ?_)
        refine a_zret C0 hr (bI_nar _) dX4_readOfHouse_50 ?_
        refine re_ (RE.semi q4 ?_)
        unfold rdHouse
        exact (if_pos h10).trans ((if_pos h26).trans (if_pos h34))
      · first
          | refine AW.congr (M := mkT P (advB (advB D n t0.2.2) n (tk b n t0.2.2).2.2)) (fun i hi => congrArg (fun D2 => shT G ad i (mkT P D2 i)) (if_neg h26)) ?_
          | skip
        refine a_iconst C0 0 dX4_readOfHouse_37 rfl ?_
        refine a_zret C0 hr rfl dX4_readOfHouse_38 ?_
        first
          | (refine re_ (RE.f q3 ?_)
             unfold rdHouse
             exact (if_pos h10).trans ((if_pos h26).trans (if_neg h34)))
          | (refine re_ (RE.f q2 ?_)
             unfold rdHouse
             exact (if_pos h10).trans (if_neg h26))
  · refine a_iconst C0 0 dX4_readOfHouse_13 rfl ?_
    refine a_zret C0 hr rfl dX4_readOfHouse_14 ?_
    refine re_ (RE.f q1 ?_)
    unfold rdHouse
    exact if_neg h10
set_option maxRecDepth 100000 in
set_option maxHeartbeats 4000000 in
theorem c_X4_readOfHouse_3 (l : Launch) (G : GE) {ad : Nat → Nat} {M : WM} {P D : WM} {b : Nat → Int32} {n : Nat} {t0 : Tk} {top : Int32} (hM : M = mkT P D) (q0 : TKS D b n t0) : CT l G yX4_readOfHouse cX4_readOfHouse 4 (some .boolean) 6 [.ref (ad 8), .ref (ad 3), .int top] 10 ad (shT G ad) M (PI (RE b n (rdHouse b n 3 top P t0))) := by
  refine CT.of (own := RX4) rfl rfl (le_b rfl) fun p e s m args below meth c A C0 hr => ?_
  refine AW.lo (ls2 := [(0, _), (1, _), (2, _)]) rfl ?_
  subst hM
  have q1 := q0.adv
  refine a_aload_n C0 0 dX4_readOfHouse_0 rfl rfl ?_
  refine a_callV _ 0 C0 em_TBc (c_X4_advance l G q0.ts (ad := fun k => ad (8 + k))) u_c_X4_advance u_m_X4_25 u_im_X4_advance u_se_X4_advance u_in_X4 hy_X4_advance rfl (lt_b rfl) rfl (hRk rfl) rfl rfl (le_b rfl) dX4_readOfHouse_1 (k_vo ?_)
  refine a_aload_n C0 0 dX4_readOfHouse_4 rfl rfl ?_
  refine a_bipush C0 7 dX4_readOfHouse_5 rfl ?_
  refine a_callV _ 1 C0 em_TBc (c_X4_isNumberTo l G q1.1 (ad := fun k => ad (8 + k))) u_c_X4_isNumberTo u_m_X4_81 u_im_X4_isNumberTo u_se_X4_isNumberTo u_in_X4 hy_X4_isNumberTo rfl (lt_b rfl) rfl (hRk rfl) rfl rfl (le_b rfl) dX4_readOfHouse_7 (k_ro em_TBc ?_)
  rw [q1.2.1]
  refine a_if_neb C0 15 dX4_readOfHouse_10 rfl (fun h10 => ?_) (fun h10 => ?_)
  · refine a_aload_n C0 0 dX4_readOfHouse_15 rfl rfl ?_
    refine a_callV _ 0 C0 em_TBc (c_X4_takeNumber l G q1.1 (ad := fun k => ad (8 + k))) u_c_X4_takeNumber u_m_X4_85 u_im_X4_takeNumber u_se_X4_takeNumber u_in_X4 hy_X4_takeNumber rfl (lt_b rfl) rfl (hRk rfl) rfl rfl (le_b rfl) dX4_readOfHouse_16 (k_de ?_)
    have q2 := q1.adv
    rw [q1.2.1]
    refine a_istore_n (ls2 := [(3, _), (0, _), (1, _), (2, _)]) C0 dX4_readOfHouse_19 rfl (lt_b rfl) rfl ?_
    refine a_aload_n C0 1 dX4_readOfHouse_20 rfl rfl ?_
    refine a_ldcS C0 15 (lt_b rfl) dX4_readOfHouse_21 ?_
    refine a_callV _ 1 C0 em_TBc (c_X4_passName l G (by decide) q2.1 (ad := fun k => ad (8 + k))) u_c_X4_passName u_m_X4_78 u_im_X4_passName u_se_X4_passName u_in_X4 hy_X4_passName rfl (lt_b rfl) rfl (hRk rfl) rfl rfl (le_b rfl) dX4_readOfHouse_23 (k_de ?_)
    rw [q2.2.1]
    refine a_if_eqb C0 37 dX4_readOfHouse_26 rfl (fun h26 => ?_) (fun h26 => ?_)
    · first
        | refine AW.congr (M := mkT P (advB (advB D n t0.2.2) n (tk b n t0.2.2).2.2)) (fun i hi => congrArg (fun D2 => shT G ad i (mkT P D2 i)) (if_neg h26)) ?_
        | skip
      refine a_iconst C0 0 dX4_readOfHouse_37 rfl ?_
      refine a_zret C0 hr rfl dX4_readOfHouse_38 ?_
      first
        | (refine re_ (RE.f q3 ?_)
           unfold rdHouse
           exact (if_pos h10).trans ((if_pos h26).trans (if_neg h34)))
        | (refine re_ (RE.f q2 ?_)
           unfold rdHouse
           exact (if_pos h10).trans (if_neg h26))
    · refine AW.congr (M := mkT P (advB (advB (advB D n t0.2.2) n (tk b n t0.2.2).2.2) n (tk b n (tk b n t0.2.2).2.2).2.2)) (fun i hi => congrArg (fun D2 => shT G ad i (mkT P D2 i)) (if_pos h26)) ?_
      have q3 := q2.adv
      refine a_aload_n C0 1 dX4_readOfHouse_29 rfl rfl ?_
      refine a_iload_n C0 3 dX4_readOfHouse_30 rfl rfl ?_
      refine a_callV _ 1 C0 em_TBc (c_X4_isNumberTo l G q3.1 (ad := fun k => ad (8 + k))) u_c_X4_isNumberTo u_m_X4_81 u_im_X4_isNumberTo u_se_X4_isNumberTo u_in_X4 hy_X4_isNumberTo rfl (lt_b rfl) rfl (hRk rfl) rfl rfl (le_b rfl) dX4_readOfHouse_31 (k_ro em_TBc ?_)
      rw [q3.2.1]
      refine a_if_neb C0 39 dX4_readOfHouse_34 rfl (fun h34 => ?_) (fun h34 => ?_)
      · refine a_aload_n C0 2 dX4_readOfHouse_39 rfl rfl ?_
        refine a_iload_n C0 0 dX4_readOfHouse_40 rfl rfl ?_
        refine a_aload_n C0 1 dX4_readOfHouse_41 rfl rfl ?_
        refine a_callV _ 0 C0 em_TBc (c_X4_takeNumber l G q3.1 (ad := fun k => ad (8 + k))) u_c_X4_takeNumber u_m_X4_85 u_im_X4_takeNumber u_se_X4_takeNumber u_in_X4 hy_X4_takeNumber rfl (lt_b rfl) rfl (hRk rfl) rfl rfl (le_b rfl) dX4_readOfHouse_42 (k_de ?_)
        have q4 := q3.adv
        rw [q3.2.1]
        refine a_iast C0 _ (lt_b rfl) (fun _ => rfl) (q1.idx h10) rfl dX4_readOfHouse_45 ?_
        refine AW.congr (M := mkT (up2 P 3 (ix (numT b (tk b n t0.2.2))) (numT b (tk b n (tk b n (tk b n t0.2.2).2.2).2.2))) (advB (advB (advB (advB D n t0.2.2) n (tk b n t0.2.2).2.2) n (tk b n (tk b n t0.2.2).2.2).2.2) n (tk b n (tk b n (tk b n t0.2.2).2.2).2.2).2.2)) (fun i hi => by
          rw [mkT_up (by decide)]
          rfl) ?_
        refine a_aload_n C0 1 dX4_readOfHouse_46 rfl rfl ?_
        refine a_callV _ 0 C0 em_TBc (c_X4_passSemicolon l G q4.1 (ad := fun k => ad (8 + k))) u_c_X4_passSemicolon u_m_X4_94 u_im_X4_passSemicolon u_se_X4_passSemicolon u_in_X4 hy_X4_passSemicolon rfl (lt_b rfl) rfl (hRk rfl) rfl rfl (le_b rfl) dX4_readOfHouse_47 (k_de ?_)
        refine a_zret C0 hr (bI_nar _) dX4_readOfHouse_50 ?_
        refine re_ (RE.semi q4 ?_)
        unfold rdHouse
        exact (if_pos h10).trans ((if_pos h26).trans (if_pos h34))
      · first
          | refine AW.congr (M := mkT P (advB (advB D n t0.2.2) n (tk b n t0.2.2).2.2)) (fun i hi => congrArg (fun D2 => shT G ad i (mkT P D2 i)) (if_neg h26)) ?_
          | skip
        refine a_iconst C0 0 dX4_readOfHouse_37 rfl ?_
        refine a_zret C0 hr rfl dX4_readOfHouse_38 ?_
        first
          | (refine re_ (RE.f q3 ?_)
             unfold rdHouse
             exact (if_pos h10).trans ((if_pos h26).trans (if_neg h34)))
          | (refine re_ (RE.f q2 ?_)
             unfold rdHouse
             exact (if_pos h10).trans (if_neg h26))
  · refine a_iconst C0 0 dX4_readOfHouse_13 rfl ?_
    refine a_zret C0 hr rfl dX4_readOfHouse_14 ?_
    refine re_ (RE.f q1 ?_)
    unfold rdHouse
    exact if_neg h10
set_option maxRecDepth 100000 in
set_option maxHeartbeats 4000000 in
theorem c_X4_readTale (l : Launch) (G : GE) {ad : Nat → Nat} {M : WM} {P D : WM} {b : Nat → Int32} {n : Nat} {t0 : Tk} {kind : Int32} {T : Nat} (hT : P 0 8 = nI T) (hT8 : T ≤ 8) (hM : M = mkT P D) (q0 : TKS D b n t0) : CT l G yX4_readTale cX4_readTale 5 (some .boolean) 6 [.ref (ad 8), .ref (ad 0), .int kind] 10 ad (shT G ad) M (PI (RE b n (rdTale b n kind P t0))) := by
  refine CT.of (own := RX4) rfl rfl (le_b rfl) fun p e s m args below meth c A C0 hr => ?_
  refine AW.lo (ls2 := [(0, _), (1, _), (2, _)]) rfl ?_
  subst hM
  have q1 := q0.adv
  refine a_aload_n C0 1 dX4_readTale_0 rfl rfl ?_
  refine g_X4_73 C0 (lt_b rfl) rfl rfl dX4_readTale_1 ?_
  refine a_bipush C0 8 dX4_readTale_4 rfl ?_
  refine a_icmp_lt C0 11 dX4_readTale_6 rfl (fun h6 => ?_) (fun h6 => ?_)
  · have hx : IX (P 0 8) (ix (P 0 8)) 8 := by
      have h6 : P 0 8 < 8 := h6
      rw [hT] at h6 ⊢
      exact IX.v (vp_in_nI ((nI_ltI (b := 8) (by omega) (by decide)).mp h6) (by decide))
    refine a_aload_n C0 0 dX4_readTale_11 rfl rfl ?_
    refine a_callV _ 0 C0 em_TBc (c_X4_advance l G q0.ts (ad := fun k => ad (8 + k))) u_c_X4_advance u_m_X4_25 u_im_X4_advance u_se_X4_advance u_in_X4 hy_X4_advance rfl (lt_b rfl) rfl (hRk rfl) rfl rfl (le_b rfl) dX4_readTale_12 (k_vo ?_)
    refine a_aload_n C0 0 dX4_readTale_15 rfl rfl ?_
    refine a_ldcS C0 13 (lt_b rfl) dX4_readTale_16 ?_
    refine a_callV _ 1 C0 em_TBc (c_X4_passName l G (by decide) q1.1 (ad := fun k => ad (8 + k))) u_c_X4_passName u_m_X4_78 u_im_X4_passName u_se_X4_passName u_in_X4 hy_X4_passName rfl (lt_b rfl) rfl (hRk rfl) rfl rfl (le_b rfl) dX4_readTale_18 (k_de ?_)
    rw [q1.2.1]
    refine a_if_eqb C0 33 dX4_readTale_21 rfl (fun h21 => ?_) (fun h21 => ?_)
    · first
        | refine AW.congr (M := mkT P (advB D n t0.2.2)) (fun i hi => congrArg (fun D2 => shT G ad i (mkT P D2 i)) (if_neg h21)) ?_
        | skip
      refine a_iconst C0 0 dX4_readTale_33 rfl ?_
      refine a_zret C0 hr rfl dX4_readTale_34 ?_
      first
        | (refine re_ (RE.f q2 ?_)
           unfold rdTale
           exact (if_pos h6).trans ((if_pos h21).trans (if_neg h30)))
        | (refine re_ (RE.f q1 ?_)
           unfold rdTale
           exact (if_pos h6).trans (if_neg h21))
    · refine AW.congr (M := mkT P (advB (advB D n t0.2.2) n (tk b n t0.2.2).2.2)) (fun i hi => congrArg (fun D2 => shT G ad i (mkT P D2 i)) (if_pos h21)) ?_
      have q2 := q1.adv
      refine a_aload_n C0 0 dX4_readTale_24 rfl rfl ?_
      refine a_bipush C0 7 dX4_readTale_25 rfl ?_
      refine a_callV _ 1 C0 em_TBc (c_X4_isNumberTo l G q2.1 (ad := fun k => ad (8 + k))) u_c_X4_isNumberTo u_m_X4_81 u_im_X4_isNumberTo u_se_X4_isNumberTo u_in_X4 hy_X4_isNumberTo rfl (lt_b rfl) rfl (hRk rfl) rfl rfl (le_b rfl) dX4_readTale_27 (k_ro em_TBc ?_)
      rw [q2.2.1]
      refine a_if_neb C0 35 dX4_readTale_30 rfl (fun h30 => ?_) (fun h30 => ?_)
      · refine a_aload_n C0 0 dX4_readTale_35 rfl rfl ?_
        refine a_callV _ 0 C0 em_TBc (c_X4_takeNumber l G q2.1 (ad := fun k => ad (8 + k))) u_c_X4_takeNumber u_m_X4_85 u_im_X4_takeNumber u_se_X4_takeNumber u_in_X4 hy_X4_takeNumber rfl (lt_b rfl) rfl (hRk rfl) rfl rfl (le_b rfl) dX4_readTale_36 (k_de ?_)
        have q3 := q2.adv
        rw [q2.2.1]
        refine a_istore_n (ls2 := [(3, _), (0, _), (1, _), (2, _)]) C0 dX4_readTale_39 rfl (lt_b rfl) rfl ?_
        refine a_bipush C0 50 dX4_readTale_40 rfl ?_
        refine a_istore (ls2 := [(4, _), (3, _), (0, _), (1, _), (2, _)]) C0 dX4_readTale_42 (lt_b rfl) rfl ?_
        refine a_aload_n C0 2 dX4_readTale_44 rfl rfl ?_
        refine a_ldcS C0 14 (lt_b rfl) dX4_readTale_45 ?_
        refine a_callV _ 1 C0 em_TBc (c_X4_passName l G (by decide) q3.1 (ad := fun k => ad (8 + k))) u_c_X4_passName u_m_X4_78 u_im_X4_passName u_se_X4_passName u_in_X4 hy_X4_passName rfl (lt_b rfl) rfl (hRk rfl) rfl rfl (le_b rfl) dX4_readTale_47 (k_de ?_)
        rw [q3.2.1]
        refine a_if_eqb C0 70 dX4_readTale_50 rfl (fun h50 => ?_) (fun h50 => ?_)
        · first
            | refine AW.congr (M := mkT P (advB (advB (advB D n t0.2.2) n (tk b n t0.2.2).2.2) n (tk b n (tk b n t0.2.2).2.2).2.2)) (fun i hi => congrArg (fun D2 => shT G ad i (mkT P D2 i)) (if_neg h50)) ?_
            | skip
          refine a_aload_n C0 3 dX4_readTale_70 rfl rfl ?_
          refine a_iload_n C0 4 dX4_readTale_71 rfl rfl ?_
          refine a_iload C0 0 dX4_readTale_72 rfl ?_
          refine a_iload_n C0 1 dX4_readTale_74 rfl rfl ?_
          refine a_callV _ 3 C0 em_TPc (c_X1_add l G hx (ad := fun k => ad (0 + k))) u_c_X1_add u_m_X4_90 u_im_X1_add u_se_X1_add u_in_X1 hy_X1_add rfl (lt_b rfl) rfl (hRk rfl) rfl rfl (le_b rfl) dX4_readTale_75 (k_de ?_)
          refine a_pop C0 dX4_readTale_78 rfl ?_
          refine a_aload_n C0 2 dX4_readTale_79 rfl rfl ?_
          refine a_callV _ 0 C0 em_TBc (c_X4_passSemicolon l G (by first | exact q5.1 | exact q3.1) (ad := fun k => ad (8 + k))) u_c_X4_passSemicolon u_m_X4_94 u_im_X4_passSemicolon u_se_X4_passSemicolon u_in_X4 hy_X4_passSemicolon rfl (lt_b rfl) rfl (hRk rfl) rfl rfl (le_b rfl) dX4_readTale_80 (k_de ?_)
          refine a_zret C0 hr (bI_nar _) dX4_readTale_83 ?_
          first
            | (refine re_ (RE.semi q5 ?_)
               unfold rdTale
               exact (if_pos h6).trans ((if_pos h21).trans ((if_pos h30).trans ((if_pos h50).trans (if_pos h59)))))
            | (refine re_ (RE.semi q3 ?_)
               unfold rdTale
               exact (if_pos h6).trans ((if_pos h21).trans ((if_pos h30).trans (if_neg h50))))
        · refine AW.congr (M := mkT P (advB (advB (advB (advB D n t0.2.2) n (tk b n t0.2.2).2.2) n (tk b n (tk b n t0.2.2).2.2).2.2) n (tk b n (tk b n (tk b n t0.2.2).2.2).2.2).2.2)) (fun i hi => congrArg (fun D2 => shT G ad i (mkT P D2 i)) (if_pos h50)) ?_
          have q4 := q3.adv
          refine a_aload_n C0 2 dX4_readTale_53 rfl rfl ?_
          refine a_bipush C0 99 dX4_readTale_54 rfl ?_
          refine a_callV _ 1 C0 em_TBc (c_X4_isNumberTo l G q4.1 (ad := fun k => ad (8 + k))) u_c_X4_isNumberTo u_m_X4_81 u_im_X4_isNumberTo u_se_X4_isNumberTo u_in_X4 hy_X4_isNumberTo rfl (lt_b rfl) rfl (hRk rfl) rfl rfl (le_b rfl) dX4_readTale_56 (k_ro em_TBc ?_)
          rw [q4.2.1]
          refine a_if_neb C0 64 dX4_readTale_59 rfl (fun h59 => ?_) (fun h59 => ?_)
          · refine a_aload_n C0 2 dX4_readTale_64 rfl rfl ?_
            refine a_callV _ 0 C0 em_TBc (c_X4_takeNumber l G q4.1 (ad := fun k => ad (8 + k))) u_c_X4_takeNumber u_m_X4_85 u_im_X4_takeNumber u_se_X4_takeNumber u_in_X4 hy_X4_takeNumber rfl (lt_b rfl) rfl (hRk rfl) rfl rfl (le_b rfl) dX4_readTale_65 (k_de ?_)
            have q5 := q4.adv
            rw [q4.2.1]
            refine a_istore (ls2 := [(4, _), (3, _), (0, _), (1, _), (2, _)]) C0 dX4_readTale_68 (lt_b rfl) rfl ?_
            first
              | refine AW.congr (M := mkT P (advB (advB (advB D n t0.2.2) n (tk b n t0.2.2).2.2) n (tk b n (tk b n t0.2.2).2.2).2.2)) (fun i hi => congrArg (fun D2 => shT G ad i (mkT P D2 i)) (if_neg h50)) ?_
              | skip
            refine a_aload_n C0 3 dX4_readTale_70 rfl rfl ?_
            refine a_iload_n C0 4 dX4_readTale_71 rfl rfl ?_
            refine a_iload C0 0 dX4_readTale_72 rfl ?_
            refine a_iload_n C0 1 dX4_readTale_74 rfl rfl ?_
            refine a_callV _ 3 C0 em_TPc (c_X1_add l G hx (ad := fun k => ad (0 + k))) u_c_X1_add u_m_X4_90 u_im_X1_add u_se_X1_add u_in_X1 hy_X1_add rfl (lt_b rfl) rfl (hRk rfl) rfl rfl (le_b rfl) dX4_readTale_75 (k_de ?_)
            refine a_pop C0 dX4_readTale_78 rfl ?_
            refine a_aload_n C0 2 dX4_readTale_79 rfl rfl ?_
            refine a_callV _ 0 C0 em_TBc (c_X4_passSemicolon l G (by first | exact q5.1 | exact q3.1) (ad := fun k => ad (8 + k))) u_c_X4_passSemicolon u_m_X4_94 u_im_X4_passSemicolon u_se_X4_passSemicolon u_in_X4 hy_X4_passSemicolon rfl (lt_b rfl) rfl (hRk rfl) rfl rfl (le_b rfl) dX4_readTale_80 (k_de ?_)
            refine a_zret C0 hr (bI_nar _) dX4_readTale_83 ?_
            first
              | (refine re_ (RE.semi q5 ?_)
                 unfold rdTale
                 exact (if_pos h6).trans ((if_pos h21).trans ((if_pos h30).trans ((if_pos h50).trans (if_pos h59)))))
              | (refine re_ (RE.semi q3 ?_)
                 unfold rdTale
                 exact (if_pos h6).trans ((if_pos h21).trans ((if_pos h30).trans (if_neg h50))))
          · refine a_iconst C0 0 dX4_readTale_62 rfl ?_
            refine a_zret C0 hr rfl dX4_readTale_63 ?_
            refine re_ (RE.f q4 ?_)
            unfold rdTale
            exact (if_pos h6).trans ((if_pos h21).trans ((if_pos h30).trans ((if_pos h50).trans (if_neg h59))))
      · first
          | refine AW.congr (M := mkT P (advB D n t0.2.2)) (fun i hi => congrArg (fun D2 => shT G ad i (mkT P D2 i)) (if_neg h21)) ?_
          | skip
        refine a_iconst C0 0 dX4_readTale_33 rfl ?_
        refine a_zret C0 hr rfl dX4_readTale_34 ?_
        first
          | (refine re_ (RE.f q2 ?_)
             unfold rdTale
             exact (if_pos h6).trans ((if_pos h21).trans (if_neg h30)))
          | (refine re_ (RE.f q1 ?_)
             unfold rdTale
             exact (if_pos h6).trans (if_neg h21))
  · refine a_iconst C0 0 dX4_readTale_9 rfl ?_
    refine a_zret C0 hr rfl dX4_readTale_10 ?_
    refine re_ (RE.f q0 ?_)
    unfold rdTale
    exact if_neg h6
