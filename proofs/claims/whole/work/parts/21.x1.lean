
theorem AW.cg {p : Program} {l : Launch} {e : Env} {R : Room} {s : State} {m : MethodId} {args : Array Value} {below : List Frame} {meth : Method} {c : Code} {G : GE} {A : Nat → Prop} {N : Nat} {ad : Nat → Nat} {sh : SH} {nL cs sl : Nat} {Q : State → Prop} {pc : Nat} {ls : LV} {st : List Value} {M M2 : WM} (h : ∀ q, q < N → M2 q = M q) (k : AW p l e R s m args below meth c G A N ad sh nL cs sl Q pc ls st M) : AW p l e R s m args below meth c G A N ad sh nL cs sl Q pc ls st M2 := AW.congr (fun i hi => congrArg (sh i) (h i hi)) k
abbrev isTl (N : WM) (v : Int32) : Prop := 0 ≤ v ∧ v ≤ N 0 8 - 1
theorem rng_N {v : Int32} {n : Nat} {y : Int32} (hy : y = nI n) (hn : n < 2 ^ 31) : (0 ≤ v ∧ v ≤ y - 1) ↔ vp_in v n := by
  subst hy
  rw [vp_in_iff]
  have h1 : (nI n - 1).toInt = (n : Int) - 1 := by
    cases n with
    | zero => rfl
    | succ k =>
      rw [nI_pred, nI_toInt (by omega)]
      omega
  rw [Int32.le_iff_toInt_le, Int32.le_iff_toInt_le, h1]
  show (0 : Int) ≤ v.toInt ∧ _ ↔ _
  omega
theorem isTl_in {N : WM} {v : Int32} {n : Nat} (w : WFP N n) : isTl N v ↔ vp_in v n := rng_N w.1 (by have := w.2.1; omega)
theorem in_of {v : Int32} {n : Nat} (hn : n < 2 ^ 31) (h : 0 ≤ v ∧ v ≤ nI n) : vp_in v (n + 1) := by
  rw [vp_in_iff]
  have h1 := Int32.le_iff_toInt_le.mp h.1
  have h2 := Int32.le_iff_toInt_le.mp h.2
  rw [nI_toInt hn] at h2
  have h1 : (0 : Int) ≤ v.toInt := h1
  omega
theorem of_in {v : Int32} {n : Nat} (hn : n < 2 ^ 31) (h : vp_in v (n + 1)) : 0 ≤ v ∧ v ≤ nI n := by
  rw [vp_in_iff] at h
  refine ⟨Int32.le_iff_toInt_le.mpr h.1, Int32.le_iff_toInt_le.mpr ?_⟩
  rw [nI_toInt hn]
  omega
abbrev isHo (v : Int32) : Prop := 0 ≤ v ∧ v ≤ 7
theorem ho_in {v : Int32} (h : isHo v) : vp_in v 8 := in_of (n := 7) (by decide) h

set_option maxRecDepth 100000 in
set_option maxHeartbeats 4000000 in
theorem c_X5_isTale (l : Launch) (G : GE) {ad : Nat → Nat} {M : WM} {O : Nat → Int32} {N K T B R S H Z : WM} {v : Int32} (hM : M = mkX O N K T B R S H Z)  : CT l G yX5_isTale cX5_isTale 2 (some .boolean) 1 [.ref (ad 0), .int v] 54 ad (shX G ad) M (PI (fun r u => r = bI (isTl N v) ∧ u = M)) := by
  refine CT.of (own := RX5) rfl rfl (le_b rfl) fun p e s m args below meth c A C0 hr => ?_
  refine AW.lo (ls2 := [(0, _), (1, _)]) rfl ?_
  subst hM
  refine a_iload_n C0 1 dX5_isTale_0 rfl rfl ?_
  refine a_iconst C0 0 dX5_isTale_1 rfl ?_
  refine a_aload_n C0 0 dX5_isTale_2 rfl rfl ?_
  refine g_X5_10 C0 (lt_b rfl) rfl rfl dX5_isTale_3 ?_
  refine g_X5_84 C0 (lt_b rfl) rfl rfl dX5_isTale_6 ?_
  refine a_iconst C0 1 dX5_isTale_9 rfl ?_
  refine a_isub C0 dX5_isTale_10 ?_
  refine a_callS _ 3 C0 EM.z (c_X5_isWithin l G) u_c_X5_isWithin u_m_X5_55 u_st_X5_isWithin u_in_X5 hy_X5_isWithin.2 (hRk rfl) rfl rfl (le_b rfl) dX5_isTale_11 (k_ro EM.z ?_)
  refine a_zret C0 hr (bI_nar _) dX5_isTale_14 ?_
  exact rt_ rfl
set_option maxRecDepth 100000 in
set_option maxHeartbeats 4000000 in
theorem c_X5_lawOf (l : Launch) (G : GE) {ad : Nat → Nat} {M : WM} {O : Nat → Int32} {N K T B R S H Z : WM} {law : Int32} (hM : M = mkX O N K T B R S H Z)  : CT l G yX5_lawOf cX5_lawOf 2 (some .int) 1 [.ref (ad 0), .int law] 54 ad (shX G ad) M (PI (fun r u => r = (if 0 ≤ law ∧ law ≤ 3 then N 1 (ix law) else -1) ∧ u = M)) := by
  refine CT.of (own := RX5) rfl rfl (le_b rfl) fun p e s m args below meth c A C0 hr => ?_
  refine AW.lo (ls2 := [(0, _), (1, _)]) rfl ?_
  subst hM
  refine a_iload_n C0 1 dX5_lawOf_0 rfl rfl ?_
  refine a_iconst C0 0 dX5_lawOf_1 rfl ?_
  refine a_iconst C0 3 dX5_lawOf_2 rfl ?_
  refine a_callS _ 3 C0 EM.z (c_X5_isWithin l G) u_c_X5_isWithin u_m_X5_55 u_st_X5_isWithin u_in_X5 hy_X5_isWithin.2 (hRk rfl) rfl rfl (le_b rfl) dX5_lawOf_3 (k_ro EM.z ?_)
  refine a_if_eqb C0 21 dX5_lawOf_6 rfl (fun h6 => ?_) (fun h6 => ?_)
  · refine a_iconst C0 (-1) dX5_lawOf_21 rfl ?_
    refine a_iret C0 hr dX5_lawOf_22 ?_
    first
      | exact rt_ (if_pos h6).symm
      | exact rt_ (if_neg h6).symm
  · refine a_aload_n C0 0 dX5_lawOf_9 rfl rfl ?_
    refine g_X5_10 C0 (lt_b rfl) rfl rfl dX5_lawOf_10 ?_
    refine g_X5_91 C0 (lt_b rfl) rfl rfl dX5_lawOf_13 ?_
    refine a_iload_n C0 1 dX5_lawOf_16 rfl rfl ?_
    refine a_iald C0 _ (lt_b rfl) rfl (in_of (n := 3) (by decide) h6) rfl dX5_lawOf_17 ?_
    refine a_goto C0 22 dX5_lawOf_18 rfl ?_
    refine a_iret C0 hr dX5_lawOf_22 ?_
    first
      | exact rt_ (if_pos h6).symm
      | exact rt_ (if_neg h6).symm
set_option maxRecDepth 100000 in
set_option maxHeartbeats 4000000 in
theorem c_X5_set (l : Launch) (G : GE) {ad : Nat → Nat} {M : WM} {O : Nat → Int32} {N K T B R S H Z : WM} {law v : Int32} (hM : M = mkX O N K T B R S H Z)  : CT l G yX5_set cX5_set 4 (some .int) 1 [.ref (ad 0), .int law, .int v] 54 ad (shX G ad) M (PI (fun r u => r = (if ((0 ≤ law ∧ law ≤ 3) ∧ (0 ≤ v ∧ v ≤ topL law)) then N 1 (ix law) else -1) ∧ u = (mkX O (if ((0 ≤ law ∧ law ≤ 3) ∧ (0 ≤ v ∧ v ≤ topL law)) then up2 N 1 (ix law) v else N) K T B R S H Z))) := by
  refine CT.of (own := RX5) rfl rfl (le_b rfl) fun p e s m args below meth c A C0 hr => ?_
  refine AW.lo (ls2 := [(0, _), (1, _), (2, _)]) rfl ?_
  subst hM
  refine a_iload_n C0 1 dX5_set_0 rfl rfl ?_
  refine a_iconst C0 0 dX5_set_1 rfl ?_
  refine a_iconst C0 3 dX5_set_2 rfl ?_
  refine a_callS _ 3 C0 EM.z (c_X5_isWithin l G) u_c_X5_isWithin u_m_X5_55 u_st_X5_isWithin u_in_X5 hy_X5_isWithin.2 (hRk rfl) rfl rfl (le_b rfl) dX5_set_3 (k_ro EM.z ?_)
  refine a_if_eqb C0 22 dX5_set_6 rfl (fun h6 => ?_) (fun h6 => ?_)
  · refine a_iconst C0 (-1) dX5_set_22 rfl ?_
    refine a_iret C0 hr dX5_set_23 ?_
    have hc : ¬ ((0 ≤ law ∧ law ≤ 3) ∧ (0 ≤ v ∧ v ≤ topL law)) := fun q => by
      first
        | exact h6 q.1
        | exact h19 q.2
    exact rd_ (if_neg hc).symm (by rw [if_neg hc])
  · have hL := in_of (n := 3) (by decide) h6
    refine a_iload_n C0 2 dX5_set_9 rfl rfl ?_
    refine a_iconst C0 0 dX5_set_10 rfl ?_
    refine a_gets C0 1 (lt_b rfl) u_f_X5_87 dX5_set_11 C0.2.2.2.2.2.2.2.2.2.1 ?_
    refine a_iload_n C0 1 dX5_set_14 rfl rfl ?_
    refine a_ti C0 1 _ (lt_b rfl) hL rfl dX5_set_15 ?_
    refine a_callS _ 3 C0 EM.z (c_X5_isWithin l G) u_c_X5_isWithin u_m_X5_55 u_st_X5_isWithin u_in_X5 hy_X5_isWithin.2 (hRk rfl) rfl rfl (le_b rfl) dX5_set_16 (k_ro EM.z ?_)
    refine a_if_neb C0 24 dX5_set_19 rfl (fun h19 => ?_) (fun h19 => ?_)
    · refine a_aload_n C0 0 dX5_set_24 rfl rfl ?_
      refine g_X5_10 C0 (lt_b rfl) rfl rfl dX5_set_25 ?_
      refine g_X5_91 C0 (lt_b rfl) rfl rfl dX5_set_28 ?_
      refine a_iload_n C0 1 dX5_set_31 rfl rfl ?_
      refine a_iald C0 _ (lt_b rfl) rfl hL rfl dX5_set_32 ?_
      refine a_istore_n (ls2 := [(3, _), (0, _), (1, _), (2, _)]) C0 dX5_set_33 rfl (lt_b rfl) rfl ?_
      refine a_aload_n C0 1 dX5_set_34 rfl rfl ?_
      refine g_X5_10 C0 (lt_b rfl) rfl rfl dX5_set_35 ?_
      refine g_X5_91 C0 (lt_b rfl) rfl rfl dX5_set_38 ?_
      refine a_iload_n C0 2 dX5_set_41 rfl rfl ?_
      refine a_iload_n C0 3 dX5_set_42 rfl rfl ?_
      refine a_iast C0 _ (lt_b rfl) (fun _ => rfl) hL rfl dX5_set_43 ?_
      refine AW.cg (M := (mkX O (up2 N 1 (ix law) v) K T B R S H Z)) (fun c hc => mkX_Nu (q := 1) (by decide) c hc) ?_
      refine a_iload_n C0 0 dX5_set_44 rfl rfl ?_
      refine a_iret C0 hr dX5_set_45 ?_
      have hc : ((0 ≤ law ∧ law ≤ 3) ∧ (0 ≤ v ∧ v ≤ topL law)) := ⟨h6, h19⟩
      exact rd_ (if_pos hc).symm (by rw [if_pos hc])
    · refine a_iconst C0 (-1) dX5_set_22 rfl ?_
      refine a_iret C0 hr dX5_set_23 ?_
      have hc : ¬ ((0 ≤ law ∧ law ≤ 3) ∧ (0 ≤ v ∧ v ≤ topL law)) := fun q => by
        first
          | exact h6 q.1
          | exact h19 q.2
      exact rd_ (if_neg hc).symm (by rw [if_neg hc])
set_option maxRecDepth 100000 in
set_option maxHeartbeats 4000000 in
theorem c_X5_tale (l : Launch) (G : GE) {ad : Nat → Nat} {M : WM} {O : Nat → Int32} {N K T B R S H Z : WM} {k h a : Int32} {nT : Nat} (w : WFP N nT) (hM : M = mkX O N K T B R S H Z)  : CT l G yX5_tale cX5_tale 4 (some .int) 2 [.ref (ad 0), .int k, .int h, .int a] 54 ad (shX G ad) M (PI (fun r u => r = (if ((0 ≤ k ∧ k ≤ 5) ∧ (0 ≤ h ∧ h ≤ 99) ∧ (0 ≤ a ∧ a ≤ 7)) then (if N 0 8 < 8 then N 0 8 else -2) else -1) ∧ u = (mkX O (if ((0 ≤ k ∧ k ≤ 5) ∧ (0 ≤ h ∧ h ≤ 99) ∧ (0 ≤ a ∧ a ≤ 7)) ∧ N 0 8 < 8 then addP N (ix (N 0 8)) k h a else N) K T B R S H Z))) := by
  refine CT.of (own := RX5) rfl rfl (le_b rfl) fun p e s m args below meth c A C0 hr => ?_
  refine AW.lo (ls2 := [(0, _), (1, _), (2, _), (3, _)]) rfl ?_
  subst hM
  refine a_iload_n C0 1 dX5_tale_0 rfl rfl ?_
  refine a_callS _ 1 C0 EM.z (c_X5_isKind l G) u_c_X5_isKind u_m_X5_94 u_st_X5_isKind u_in_X5 hy_X5_isKind.2 (hRk rfl) rfl rfl (le_b rfl) dX5_tale_1 (k_ro EM.z ?_)
  refine a_if_eqb C0 21 dX5_tale_4 rfl (fun h4 => ?_) (fun h4 => ?_)
  · refine a_iconst C0 (-1) dX5_tale_21 rfl ?_
    refine a_iret C0 hr dX5_tale_22 ?_
    have hc : ¬ ((0 ≤ k ∧ k ≤ 5) ∧ (0 ≤ h ∧ h ≤ 99) ∧ (0 ≤ a ∧ a ≤ 7)) := fun q => by
      first
        | exact h4 q.1
        | exact h11 q.2.1
        | exact h18 q.2.2
    exact rd_ (if_neg hc).symm (by rw [if_neg fun q => hc q.1])
  · refine a_iload_n C0 2 dX5_tale_7 rfl rfl ?_
    refine a_callS _ 1 C0 EM.z (c_X5_isHeat l G) u_c_X5_isHeat u_m_X5_98 u_st_X5_isHeat u_in_X5 hy_X5_isHeat.2 (hRk rfl) rfl rfl (le_b rfl) dX5_tale_8 (k_ro EM.z ?_)
    refine a_if_eqb C0 21 dX5_tale_11 rfl (fun h11 => ?_) (fun h11 => ?_)
    · refine a_iconst C0 (-1) dX5_tale_21 rfl ?_
      refine a_iret C0 hr dX5_tale_22 ?_
      have hc : ¬ ((0 ≤ k ∧ k ≤ 5) ∧ (0 ≤ h ∧ h ≤ 99) ∧ (0 ≤ a ∧ a ≤ 7)) := fun q => by
        first
          | exact h4 q.1
          | exact h11 q.2.1
          | exact h18 q.2.2
      exact rd_ (if_neg hc).symm (by rw [if_neg fun q => hc q.1])
    · refine a_iload_n C0 3 dX5_tale_14 rfl rfl ?_
      refine a_callS _ 1 C0 EM.z (c_X5_isHouse l G) u_c_X5_isHouse u_m_X5_101 u_st_X5_isHouse u_in_X5 hy_X5_isHouse.2 (hRk rfl) rfl rfl (le_b rfl) dX5_tale_15 (k_ro EM.z ?_)
      refine a_if_neb C0 23 dX5_tale_18 rfl (fun h18 => ?_) (fun h18 => ?_)
      · refine a_aload_n C0 0 dX5_tale_23 rfl rfl ?_
        refine g_X5_10 C0 (lt_b rfl) rfl rfl dX5_tale_24 ?_
        refine g_X5_84 C0 (lt_b rfl) rfl rfl dX5_tale_27 ?_
        refine a_bipush C0 8 dX5_tale_30 rfl ?_
        refine a_icmp_lt C0 38 dX5_tale_32 rfl (fun h32 => ?_) (fun h32 => ?_)
        · have h32 : N 0 8 < 8 := h32
          have hx : IX (N 0 8) (ix (N 0 8)) 8 := by
            rw [w.1] at h32 ⊢
            exact IX.v (vp_in_nI ((nI_ltI (b := 8) (by have := w.2.1; omega) (by decide)).mp h32) (by decide))
          refine a_aload_n C0 0 dX5_tale_38 rfl rfl ?_
          refine g_X5_10 C0 (lt_b rfl) rfl rfl dX5_tale_39 ?_
          refine a_iload_n C0 1 dX5_tale_42 rfl rfl ?_
          refine a_iload_n C0 2 dX5_tale_43 rfl rfl ?_
          refine a_iload_n C0 3 dX5_tale_44 rfl rfl ?_
          refine a_callV _ 3 C0 em_XN (c_X1_add l G hx (ad := fun k => ad (1 + k))) u_c_X1_add u_m_X5_104 u_im_X1_add u_se_X1_add u_in_X1 hy_X1_add rfl (lt_b rfl) rfl (hRk rfl) rfl rfl (le_b rfl) dX5_tale_45 (k_de ?_)
          refine a_iret C0 hr dX5_tale_48 ?_
          have hc : ((0 ≤ k ∧ k ≤ 5) ∧ (0 ≤ h ∧ h ≤ 99) ∧ (0 ≤ a ∧ a ≤ 7)) := ⟨h4, h11, h18⟩
          exact rd_ (by rw [if_pos hc, if_pos h32]) (by rw [if_pos ⟨hc, h32⟩])
        · refine a_bipush C0 (-2) dX5_tale_35 rfl ?_
          refine a_iret C0 hr dX5_tale_37 ?_
          have hc : ((0 ≤ k ∧ k ≤ 5) ∧ (0 ≤ h ∧ h ≤ 99) ∧ (0 ≤ a ∧ a ≤ 7)) := ⟨h4, h11, h18⟩
          have h32 : ¬ N 0 8 < 8 := h32
          exact rd_ (by rw [if_pos hc, if_neg h32]) (by rw [if_neg fun q => h32 q.2])
      · refine a_iconst C0 (-1) dX5_tale_21 rfl ?_
        refine a_iret C0 hr dX5_tale_22 ?_
        have hc : ¬ ((0 ≤ k ∧ k ≤ 5) ∧ (0 ≤ h ∧ h ≤ 99) ∧ (0 ≤ a ∧ a ≤ 7)) := fun q => by
          first
            | exact h4 q.1
            | exact h11 q.2.1
            | exact h18 q.2.2
        exact rd_ (if_neg hc).symm (by rw [if_neg fun q => hc q.1])
set_option maxRecDepth 100000 in
set_option maxHeartbeats 4000000 in
theorem c_X5_of (l : Launch) (G : GE) {ad : Nat → Nat} {M : WM} {O : Nat → Int32} {N K T B R S H Z : WM} {v k : Int32} {nT : Nat} (w : WFP N nT) (hM : M = mkX O N K T B R S H Z)  : CT l G yX5_of cX5_of 3 (some .int) 2 [.ref (ad 0), .int v, .int k] 54 ad (shX G ad) M (PI (fun r u => r = (if isTl N v then (if k = 0 then N 4 (ix v) else if k = 1 then N 5 (ix v) else if k = 2 then N 6 (ix v) else if k = 3 then N 7 (ix v) else -1) else -1) ∧ u = M)) := by
  refine CT.of (own := RX5) rfl rfl (le_b rfl) fun p e s m args below meth c A C0 hr => ?_
  refine AW.lo (ls2 := [(0, _), (1, _), (2, _)]) rfl ?_
  subst hM
  refine a_aload_n C0 0 dX5_of_0 rfl rfl ?_
  refine a_iload_n C0 1 dX5_of_1 rfl rfl ?_
  refine a_callV _ 1 C0 EM.refl (c_X5_isTale l G rfl) u_c_X5_isTale u_m_X5_108 u_im_X5_isTale u_se_X5_isTale u_in_X5 hy_X5_isTale rfl (lt_b rfl) rfl (hRk rfl) rfl rfl (le_b rfl) dX5_of_2 (k_ro EM.refl ?_)
  refine a_if_neb C0 10 dX5_of_5 rfl (fun h5 => ?_) (fun h5 => ?_)
  · have hv := (isTl_in w).mp h5
    have hx : IX v (ix v) 8 := IX.v (vp_le hv w.2.1)
    refine a_iload_n C0 2 dX5_of_10 rfl rfl ?_
    refine a_case 0 (fun h11 => ?_) (fun h11n_0 => ?_)
    · refine a_tsIn C0 40 dX5_of_11 (by decide) (by decide) rfl rfl ?_
      refine a_aload_n C0 0 dX5_of_40 rfl rfl ?_
      refine g_X5_10 C0 (lt_b rfl) rfl rfl dX5_of_41 ?_
      refine g_X5_111 C0 (lt_b rfl) rfl rfl dX5_of_44 ?_
      refine a_iload_n C0 1 dX5_of_47 rfl rfl ?_
      refine a_iald C0 _ (lt_b rfl) rfl hx.1 hx.2 dX5_of_48 ?_
      refine a_iret C0 hr dX5_of_49 ?_
      first
        | exact rt_ (if_neg h5).symm
        | exact rt_ (by rw [if_pos h5, if_neg h11n_0, if_neg h11n_1, if_neg h11n_2, if_neg h11n_3])
        | exact rt_ (by rw [if_pos h5, if_neg h11n_0, if_neg h11n_1, if_neg h11n_2, if_pos h11]; rfl)
        | exact rt_ (by rw [if_pos h5, if_neg h11n_0, if_neg h11n_1, if_pos h11]; rfl)
        | exact rt_ (by rw [if_pos h5, if_neg h11n_0, if_pos h11]; rfl)
        | exact rt_ (by rw [if_pos h5, if_pos h11]; rfl)
    refine a_case 1 (fun h11 => ?_) (fun h11n_1 => ?_)
    · refine a_tsIn C0 50 dX5_of_11 (by decide) (by decide) rfl rfl ?_
      refine a_aload_n C0 0 dX5_of_50 rfl rfl ?_
      refine g_X5_10 C0 (lt_b rfl) rfl rfl dX5_of_51 ?_
      refine g_X5_114 C0 (lt_b rfl) rfl rfl dX5_of_54 ?_
      refine a_iload_n C0 1 dX5_of_57 rfl rfl ?_
      refine a_iald C0 _ (lt_b rfl) rfl hx.1 hx.2 dX5_of_58 ?_
      refine a_iret C0 hr dX5_of_59 ?_
      first
        | exact rt_ (if_neg h5).symm
        | exact rt_ (by rw [if_pos h5, if_neg h11n_0, if_neg h11n_1, if_neg h11n_2, if_neg h11n_3])
        | exact rt_ (by rw [if_pos h5, if_neg h11n_0, if_neg h11n_1, if_neg h11n_2, if_pos h11]; rfl)
        | exact rt_ (by rw [if_pos h5, if_neg h11n_0, if_neg h11n_1, if_pos h11]; rfl)
        | exact rt_ (by rw [if_pos h5, if_neg h11n_0, if_pos h11]; rfl)
        | exact rt_ (by rw [if_pos h5, if_pos h11]; rfl)
    refine a_case 2 (fun h11 => ?_) (fun h11n_2 => ?_)
    · refine a_tsIn C0 60 dX5_of_11 (by decide) (by decide) rfl rfl ?_
      refine a_aload_n C0 0 dX5_of_60 rfl rfl ?_
      refine g_X5_10 C0 (lt_b rfl) rfl rfl dX5_of_61 ?_
      refine g_X5_117 C0 (lt_b rfl) rfl rfl dX5_of_64 ?_
      refine a_iload_n C0 1 dX5_of_67 rfl rfl ?_
      refine a_iald C0 _ (lt_b rfl) rfl hx.1 hx.2 dX5_of_68 ?_
      refine a_iret C0 hr dX5_of_69 ?_
      first
        | exact rt_ (if_neg h5).symm
        | exact rt_ (by rw [if_pos h5, if_neg h11n_0, if_neg h11n_1, if_neg h11n_2, if_neg h11n_3])
        | exact rt_ (by rw [if_pos h5, if_neg h11n_0, if_neg h11n_1, if_neg h11n_2, if_pos h11]; rfl)
        | exact rt_ (by rw [if_pos h5, if_neg h11n_0, if_neg h11n_1, if_pos h11]; rfl)
        | exact rt_ (by rw [if_pos h5, if_neg h11n_0, if_pos h11]; rfl)
        | exact rt_ (by rw [if_pos h5, if_pos h11]; rfl)
    refine a_case 3 (fun h11 => ?_) (fun h11n_3 => ?_)
    · refine a_tsIn C0 70 dX5_of_11 (by decide) (by decide) rfl rfl ?_
      refine a_aload_n C0 0 dX5_of_70 rfl rfl ?_
      refine g_X5_10 C0 (lt_b rfl) rfl rfl dX5_of_71 ?_
      refine g_X5_120 C0 (lt_b rfl) rfl rfl dX5_of_74 ?_
      refine a_iload_n C0 1 dX5_of_77 rfl rfl ?_
      refine a_iald C0 _ (lt_b rfl) rfl hx.1 hx.2 dX5_of_78 ?_
      refine a_iret C0 hr dX5_of_79 ?_
      first
        | exact rt_ (if_neg h5).symm
        | exact rt_ (by rw [if_pos h5, if_neg h11n_0, if_neg h11n_1, if_neg h11n_2, if_neg h11n_3])
        | exact rt_ (by rw [if_pos h5, if_neg h11n_0, if_neg h11n_1, if_neg h11n_2, if_pos h11]; rfl)
        | exact rt_ (by rw [if_pos h5, if_neg h11n_0, if_neg h11n_1, if_pos h11]; rfl)
        | exact rt_ (by rw [if_pos h5, if_neg h11n_0, if_pos h11]; rfl)
        | exact rt_ (by rw [if_pos h5, if_pos h11]; rfl)
    refine a_tsOut C0 80 dX5_of_11 (by have t0 := lv_neT (a := 0) h11n_0 rfl; have t1 := lv_neT (a := 1) h11n_1 rfl; have t2 := lv_neT (a := 2) h11n_2 rfl; have t3 := lv_neT (a := 3) h11n_3 rfl; omega) rfl ?_
    refine a_iconst C0 (-1) dX5_of_80 rfl ?_
    refine a_iret C0 hr dX5_of_81 ?_
    first
      | exact rt_ (if_neg h5).symm
      | exact rt_ (by rw [if_pos h5, if_neg h11n_0, if_neg h11n_1, if_neg h11n_2, if_neg h11n_3])
      | exact rt_ (by rw [if_pos h5, if_neg h11n_0, if_neg h11n_1, if_neg h11n_2, if_pos h11]; rfl)
      | exact rt_ (by rw [if_pos h5, if_neg h11n_0, if_neg h11n_1, if_pos h11]; rfl)
      | exact rt_ (by rw [if_pos h5, if_neg h11n_0, if_pos h11]; rfl)
      | exact rt_ (by rw [if_pos h5, if_pos h11]; rfl)
  · refine a_iconst C0 (-1) dX5_of_8 rfl ?_
    refine a_iret C0 hr dX5_of_9 ?_
    first
      | exact rt_ (if_neg h5).symm
      | exact rt_ (by rw [if_pos h5, if_neg h11n_0, if_neg h11n_1, if_neg h11n_2, if_neg h11n_3])
      | exact rt_ (by rw [if_pos h5, if_neg h11n_0, if_neg h11n_1, if_neg h11n_2, if_pos h11]; rfl)
      | exact rt_ (by rw [if_pos h5, if_neg h11n_0, if_neg h11n_1, if_pos h11]; rfl)
      | exact rt_ (by rw [if_pos h5, if_neg h11n_0, if_pos h11]; rfl)
      | exact rt_ (by rw [if_pos h5, if_pos h11]; rfl)
set_option maxRecDepth 100000 in
set_option maxHeartbeats 4000000 in
theorem c_X5_does (l : Launch) (G : GE) {ad : Nat → Nat} {M : WM} {O : Nat → Int32} {N K T B R S H Z : WM} {v k : Int32} {nT : Nat} (w : WFP N nT) (hM : M = mkX O N K T B R S H Z)  : CT l G yX5_does cX5_does 3 (some .int) 2 [.ref (ad 0), .int v, .int k] 54 ad (shX G ad) M (PI (fun r u => r = (if (isTl N v ∧ (0 ≤ k ∧ k ≤ 1)) then (if k = 0 then 1000 + coolsP N (ix v) else 1000 + doorsP N (ix v)) else -1) ∧ u = M)) := by
  refine CT.of (own := RX5) rfl rfl (le_b rfl) fun p e s m args below meth c A C0 hr => ?_
  refine AW.lo (ls2 := [(0, _), (1, _), (2, _)]) rfl ?_
  subst hM
  refine a_aload_n C0 0 dX5_does_0 rfl rfl ?_
  refine a_iload_n C0 1 dX5_does_1 rfl rfl ?_
  refine a_callV _ 1 C0 EM.refl (c_X5_isTale l G rfl) u_c_X5_isTale u_m_X5_108 u_im_X5_isTale u_se_X5_isTale u_in_X5 hy_X5_isTale rfl (lt_b rfl) rfl (hRk rfl) rfl rfl (le_b rfl) dX5_does_2 (k_ro EM.refl ?_)
  refine a_if_eqb C0 17 dX5_does_5 rfl (fun h5 => ?_) (fun h5 => ?_)
  · refine a_iconst C0 (-1) dX5_does_17 rfl ?_
    refine a_iret C0 hr dX5_does_18 ?_
    have hc : ¬ (isTl N v ∧ (0 ≤ k ∧ k ≤ 1)) := fun q => by
      first
        | exact h5 q.1
        | exact h14 q.2
    exact rt_ (if_neg hc).symm
  · refine a_iload_n C0 2 dX5_does_8 rfl rfl ?_
    refine a_iconst C0 0 dX5_does_9 rfl ?_
    refine a_iconst C0 1 dX5_does_10 rfl ?_
    refine a_callS _ 3 C0 EM.z (c_X5_isWithin l G) u_c_X5_isWithin u_m_X5_55 u_st_X5_isWithin u_in_X5 hy_X5_isWithin.2 (hRk rfl) rfl rfl (le_b rfl) dX5_does_11 (k_ro EM.z ?_)
    refine a_if_neb C0 19 dX5_does_14 rfl (fun h14 => ?_) (fun h14 => ?_)
    · have hv := (isTl_in w).mp h5
      have hx : IX v (ix v) 8 := IX.v (vp_le hv w.2.1)
      refine a_sipush C0 1000 dX5_does_19 rfl ?_
      refine a_iload_n C0 2 dX5_does_22 rfl rfl ?_
      refine a_if_ne C0 37 dX5_does_23 rfl (fun h23 => ?_) (fun h23 => ?_)
      · refine a_aload_n C0 0 dX5_does_37 rfl rfl ?_
        refine g_X5_10 C0 (lt_b rfl) rfl rfl dX5_does_38 ?_
        refine a_iload_n C0 1 dX5_does_41 rfl rfl ?_
        refine a_callV _ 1 C0 em_XN (c_X1_doorsOf l G hx (ad := fun k => ad (1 + k))) u_c_X1_doorsOf u_m_X5_127 u_im_X1_doorsOf u_se_X1_doorsOf u_in_X1 hy_X1_doorsOf rfl (lt_b rfl) rfl (hRk rfl) rfl rfl (le_b rfl) dX5_does_42 (k_ro em_XN ?_)
        refine a_iadd C0 dX5_does_45 ?_
        refine a_iret C0 hr dX5_does_46 ?_
        have hc : (isTl N v ∧ (0 ≤ k ∧ k ≤ 1)) := ⟨h5, h14⟩
        first
          | exact rt_ (by rw [if_pos hc, if_pos h23])
          | exact rt_ (by rw [if_pos hc, if_neg h23])
      · refine a_aload_n C0 0 dX5_does_26 rfl rfl ?_
        refine g_X5_10 C0 (lt_b rfl) rfl rfl dX5_does_27 ?_
        refine a_iload_n C0 1 dX5_does_30 rfl rfl ?_
        refine a_callV _ 1 C0 em_XN (c_X1_coolsOf l G hx (ad := fun k => ad (1 + k))) u_c_X1_coolsOf u_m_X5_123 u_im_X1_coolsOf u_se_X1_coolsOf u_in_X1 hy_X1_coolsOf rfl (lt_b rfl) rfl (hRk rfl) rfl rfl (le_b rfl) dX5_does_31 (k_ro em_XN ?_)
        refine a_goto C0 45 dX5_does_34 rfl ?_
        refine a_iadd C0 dX5_does_45 ?_
        refine a_iret C0 hr dX5_does_46 ?_
        have hc : (isTl N v ∧ (0 ≤ k ∧ k ≤ 1)) := ⟨h5, h14⟩
        first
          | exact rt_ (by rw [if_pos hc, if_pos h23])
          | exact rt_ (by rw [if_pos hc, if_neg h23])
    · refine a_iconst C0 (-1) dX5_does_17 rfl ?_
      refine a_iret C0 hr dX5_does_18 ?_
      have hc : ¬ (isTl N v ∧ (0 ≤ k ∧ k ≤ 1)) := fun q => by
        first
          | exact h5 q.1
          | exact h14 q.2
      exact rt_ (if_neg hc).symm
set_option maxRecDepth 100000 in
set_option maxHeartbeats 4000000 in
theorem c_X5_mind (l : Launch) (G : GE) {ad : Nat → Nat} {M : WM} {O : Nat → Int32} {N K T B R S H Z : WM} {v y : Int32} {nT : Nat} (w : WFP N nT) (hM : M = mkX O N K T B R S H Z)  : CT l G yX5_mind cX5_mind 4 (some .int) 2 [.ref (ad 0), .int v, .int y] 54 ad (shX G ad) M (PI (fun r u => r = (if (isTl N v ∧ (0 ≤ y ∧ y ≤ 5)) then N 4 (ix v) else -1) ∧ u = (mkX O (if (isTl N v ∧ (0 ≤ y ∧ y ≤ 5)) then up2 N 4 (ix v) y else N) K T B R S H Z))) := by
  refine CT.of (own := RX5) rfl rfl (le_b rfl) fun p e s m args below meth c A C0 hr => ?_
  refine AW.lo (ls2 := [(0, _), (1, _), (2, _)]) rfl ?_
  subst hM
  refine a_aload_n C0 0 dX5_mind_0 rfl rfl ?_
  refine a_iload_n C0 1 dX5_mind_1 rfl rfl ?_
  refine a_callV _ 1 C0 EM.refl (c_X5_isTale l G rfl) u_c_X5_isTale u_m_X5_108 u_im_X5_isTale u_se_X5_isTale u_in_X5 hy_X5_isTale rfl (lt_b rfl) rfl (hRk rfl) rfl rfl (le_b rfl) dX5_mind_2 (k_ro EM.refl ?_)
  refine a_if_eqb C0 15 dX5_mind_5 rfl (fun h5 => ?_) (fun h5 => ?_)
  · refine a_iconst C0 (-1) dX5_mind_15 rfl ?_
    refine a_iret C0 hr dX5_mind_16 ?_
    have hc : ¬ (isTl N v ∧ (0 ≤ y ∧ y ≤ 5)) := fun q => by
      first
        | exact h5 q.1
        | exact h12 q.2
    exact rd_ (if_neg hc).symm (by rw [if_neg hc])
  · refine a_iload_n C0 2 dX5_mind_8 rfl rfl ?_
    refine a_callS _ 1 C0 EM.z (c_X5_isKind l G) u_c_X5_isKind u_m_X5_94 u_st_X5_isKind u_in_X5 hy_X5_isKind.2 (hRk rfl) rfl rfl (le_b rfl) dX5_mind_9 (k_ro EM.z ?_)
    refine a_if_neb C0 17 dX5_mind_12 rfl (fun h12 => ?_) (fun h12 => ?_)
    · have hv := (isTl_in w).mp h5
      have hx : IX v (ix v) 8 := IX.v (vp_le hv w.2.1)
      refine a_aload_n C0 0 dX5_mind_17 rfl rfl ?_
      refine g_X5_10 C0 (lt_b rfl) rfl rfl dX5_mind_18 ?_
      refine g_X5_111 C0 (lt_b rfl) rfl rfl dX5_mind_21 ?_
      refine a_iload_n C0 1 dX5_mind_24 rfl rfl ?_
      refine a_iald C0 _ (lt_b rfl) rfl hx.1 hx.2 dX5_mind_25 ?_
      refine a_istore_n (ls2 := [(3, _), (0, _), (1, _), (2, _)]) C0 dX5_mind_26 rfl (lt_b rfl) rfl ?_
      refine a_aload_n C0 1 dX5_mind_27 rfl rfl ?_
      refine g_X5_10 C0 (lt_b rfl) rfl rfl dX5_mind_28 ?_
      refine g_X5_111 C0 (lt_b rfl) rfl rfl dX5_mind_31 ?_
      refine a_iload_n C0 2 dX5_mind_34 rfl rfl ?_
      refine a_iload_n C0 3 dX5_mind_35 rfl rfl ?_
      refine a_iast C0 _ (lt_b rfl) (fun _ => rfl) hx.1 hx.2 dX5_mind_36 ?_
      refine AW.cg (M := (mkX O (up2 N 4 (ix v) y) K T B R S H Z)) (fun c hc => mkX_Nu (q := 4) (by decide) c hc) ?_
      refine a_iload_n C0 0 dX5_mind_37 rfl rfl ?_
      refine a_iret C0 hr dX5_mind_38 ?_
      have hc : (isTl N v ∧ (0 ≤ y ∧ y ≤ 5)) := ⟨h5, h12⟩
      exact rd_ (by rw [if_pos hc]; rfl) (by rw [if_pos hc])
    · refine a_iconst C0 (-1) dX5_mind_15 rfl ?_
      refine a_iret C0 hr dX5_mind_16 ?_
      have hc : ¬ (isTl N v ∧ (0 ≤ y ∧ y ≤ 5)) := fun q => by
        first
          | exact h5 q.1
          | exact h12 q.2
      exact rd_ (if_neg hc).symm (by rw [if_neg hc])
set_option maxRecDepth 100000 in
set_option maxHeartbeats 4000000 in
theorem c_X5_warm (l : Launch) (G : GE) {ad : Nat → Nat} {M : WM} {O : Nat → Int32} {N K T B R S H Z : WM} {v y : Int32} {nT : Nat} (w : WFP N nT) (hM : M = mkX O N K T B R S H Z)  : CT l G yX5_warm cX5_warm 4 (some .int) 2 [.ref (ad 0), .int v, .int y] 54 ad (shX G ad) M (PI (fun r u => r = (if (isTl N v ∧ (0 ≤ y ∧ y ≤ 99)) then N 5 (ix v) else -1) ∧ u = (mkX O (if (isTl N v ∧ (0 ≤ y ∧ y ≤ 99)) then up2 N 5 (ix v) y else N) K T B R S H Z))) := by
  refine CT.of (own := RX5) rfl rfl (le_b rfl) fun p e s m args below meth c A C0 hr => ?_
  refine AW.lo (ls2 := [(0, _), (1, _), (2, _)]) rfl ?_
  subst hM
  refine a_aload_n C0 0 dX5_warm_0 rfl rfl ?_
  refine a_iload_n C0 1 dX5_warm_1 rfl rfl ?_
  refine a_callV _ 1 C0 EM.refl (c_X5_isTale l G rfl) u_c_X5_isTale u_m_X5_108 u_im_X5_isTale u_se_X5_isTale u_in_X5 hy_X5_isTale rfl (lt_b rfl) rfl (hRk rfl) rfl rfl (le_b rfl) dX5_warm_2 (k_ro EM.refl ?_)
  refine a_if_eqb C0 15 dX5_warm_5 rfl (fun h5 => ?_) (fun h5 => ?_)
  · refine a_iconst C0 (-1) dX5_warm_15 rfl ?_
    refine a_iret C0 hr dX5_warm_16 ?_
    have hc : ¬ (isTl N v ∧ (0 ≤ y ∧ y ≤ 99)) := fun q => by
      first
        | exact h5 q.1
        | exact h12 q.2
    exact rd_ (if_neg hc).symm (by rw [if_neg hc])
  · refine a_iload_n C0 2 dX5_warm_8 rfl rfl ?_
    refine a_callS _ 1 C0 EM.z (c_X5_isHeat l G) u_c_X5_isHeat u_m_X5_98 u_st_X5_isHeat u_in_X5 hy_X5_isHeat.2 (hRk rfl) rfl rfl (le_b rfl) dX5_warm_9 (k_ro EM.z ?_)
    refine a_if_neb C0 17 dX5_warm_12 rfl (fun h12 => ?_) (fun h12 => ?_)
    · have hv := (isTl_in w).mp h5
      have hx : IX v (ix v) 8 := IX.v (vp_le hv w.2.1)
      refine a_aload_n C0 0 dX5_warm_17 rfl rfl ?_
      refine g_X5_10 C0 (lt_b rfl) rfl rfl dX5_warm_18 ?_
      refine g_X5_114 C0 (lt_b rfl) rfl rfl dX5_warm_21 ?_
      refine a_iload_n C0 1 dX5_warm_24 rfl rfl ?_
      refine a_iald C0 _ (lt_b rfl) rfl hx.1 hx.2 dX5_warm_25 ?_
      refine a_istore_n (ls2 := [(3, _), (0, _), (1, _), (2, _)]) C0 dX5_warm_26 rfl (lt_b rfl) rfl ?_
      refine a_aload_n C0 1 dX5_warm_27 rfl rfl ?_
      refine g_X5_10 C0 (lt_b rfl) rfl rfl dX5_warm_28 ?_
      refine g_X5_114 C0 (lt_b rfl) rfl rfl dX5_warm_31 ?_
      refine a_iload_n C0 2 dX5_warm_34 rfl rfl ?_
      refine a_iload_n C0 3 dX5_warm_35 rfl rfl ?_
      refine a_iast C0 _ (lt_b rfl) (fun _ => rfl) hx.1 hx.2 dX5_warm_36 ?_
      refine AW.cg (M := (mkX O (up2 N 5 (ix v) y) K T B R S H Z)) (fun c hc => mkX_Nu (q := 5) (by decide) c hc) ?_
      refine a_iload_n C0 0 dX5_warm_37 rfl rfl ?_
      refine a_iret C0 hr dX5_warm_38 ?_
      have hc : (isTl N v ∧ (0 ≤ y ∧ y ≤ 99)) := ⟨h5, h12⟩
      exact rd_ (by rw [if_pos hc]; rfl) (by rw [if_pos hc])
    · refine a_iconst C0 (-1) dX5_warm_15 rfl ?_
      refine a_iret C0 hr dX5_warm_16 ?_
      have hc : ¬ (isTl N v ∧ (0 ≤ y ∧ y ≤ 99)) := fun q => by
        first
          | exact h5 q.1
          | exact h12 q.2
      exact rd_ (if_neg hc).symm (by rw [if_neg hc])
set_option maxRecDepth 100000 in
set_option maxHeartbeats 4000000 in
theorem c_X5_carry (l : Launch) (G : GE) {ad : Nat → Nat} {M : WM} {O : Nat → Int32} {N K T B R S H Z : WM} {v y : Int32} {nT : Nat} (w : WFP N nT) (hM : M = mkX O N K T B R S H Z)  : CT l G yX5_carry cX5_carry 4 (some .int) 2 [.ref (ad 0), .int v, .int y] 54 ad (shX G ad) M (PI (fun r u => r = (if (isTl N v ∧ isHo y) then N 6 (ix v) else -1) ∧ u = (mkX O (if (isTl N v ∧ isHo y) then bringP N (ix v) y else N) K T B R S H Z))) := by
  refine CT.of (own := RX5) rfl rfl (le_b rfl) fun p e s m args below meth c A C0 hr => ?_
  refine AW.lo (ls2 := [(0, _), (1, _), (2, _)]) rfl ?_
  subst hM
  refine a_aload_n C0 0 dX5_carry_0 rfl rfl ?_
  refine a_iload_n C0 1 dX5_carry_1 rfl rfl ?_
  refine a_callV _ 1 C0 EM.refl (c_X5_isTale l G rfl) u_c_X5_isTale u_m_X5_108 u_im_X5_isTale u_se_X5_isTale u_in_X5 hy_X5_isTale rfl (lt_b rfl) rfl (hRk rfl) rfl rfl (le_b rfl) dX5_carry_2 (k_ro EM.refl ?_)
  refine a_if_eqb C0 15 dX5_carry_5 rfl (fun h5 => ?_) (fun h5 => ?_)
  · refine a_iconst C0 (-1) dX5_carry_15 rfl ?_
    refine a_iret C0 hr dX5_carry_16 ?_
    have hc : ¬ (isTl N v ∧ isHo y) := fun q => by
      first
        | exact h5 q.1
        | exact h12 q.2
    exact rd_ (if_neg hc).symm (by rw [if_neg hc])
  · refine a_iload_n C0 2 dX5_carry_8 rfl rfl ?_
    refine a_callS _ 1 C0 EM.z (c_X5_isHouse l G) u_c_X5_isHouse u_m_X5_101 u_st_X5_isHouse u_in_X5 hy_X5_isHouse.2 (hRk rfl) rfl rfl (le_b rfl) dX5_carry_9 (k_ro EM.z ?_)
    refine a_if_neb C0 17 dX5_carry_12 rfl (fun h12 => ?_) (fun h12 => ?_)
    · have hv := (isTl_in w).mp h5
      have hx : IX v (ix v) 8 := IX.v (vp_le hv w.2.1)
      refine a_aload_n C0 0 dX5_carry_17 rfl rfl ?_
      refine g_X5_10 C0 (lt_b rfl) rfl rfl dX5_carry_18 ?_
      refine g_X5_117 C0 (lt_b rfl) rfl rfl dX5_carry_21 ?_
      refine a_iload_n C0 1 dX5_carry_24 rfl rfl ?_
      refine a_iald C0 _ (lt_b rfl) rfl hx.1 hx.2 dX5_carry_25 ?_
      refine a_istore_n (ls2 := [(3, _), (0, _), (1, _), (2, _)]) C0 dX5_carry_26 rfl (lt_b rfl) rfl ?_
      refine a_aload_n C0 1 dX5_carry_27 rfl rfl ?_
      refine g_X5_10 C0 (lt_b rfl) rfl rfl dX5_carry_28 ?_
      refine a_iload_n C0 2 dX5_carry_31 rfl rfl ?_
      refine a_iload_n C0 3 dX5_carry_32 rfl rfl ?_
      refine a_callV _ 2 C0 em_XN (c_X1_bring l G hx (ad := fun k => ad (1 + k))) u_c_X1_bring u_m_X5_130 u_im_X1_bring u_se_X1_bring u_in_X1 hy_X1_bring rfl (lt_b rfl) rfl (hRk rfl) rfl rfl (le_b rfl) dX5_carry_33 (k_vo ?_)
      refine a_iload_n C0 0 dX5_carry_36 rfl rfl ?_
      refine a_iret C0 hr dX5_carry_37 ?_
      have hc : (isTl N v ∧ isHo y) := ⟨h5, h12⟩
      exact rd_ (by rw [if_pos hc]; rfl) (by rw [if_pos hc])
    · refine a_iconst C0 (-1) dX5_carry_15 rfl ?_
      refine a_iret C0 hr dX5_carry_16 ?_
      have hc : ¬ (isTl N v ∧ isHo y) := fun q => by
        first
          | exact h5 q.1
          | exact h12 q.2
      exact rd_ (if_neg hc).symm (by rw [if_neg hc])
def hofS (N : WM) (nT : Nat) (v k : Int32) : Int32 := (if isHo v then (if k = 0 then N 2 (ix v) else if k = 1 then N 3 (ix v) else if k = 2 then bI (boxP N v) else if k = 3 then orC (fun i => decide (N 6 i = v)) bitI nT else if k = 4 then lpP N 8 0 v else if k = 5 then orC (fun i => decide ((N 7 i >>> (v &&& 31)) &&& 1 = 1)) bitI nT else -1) else -1)
set_option maxRecDepth 100000 in
set_option maxHeartbeats 4000000 in
theorem c_X5_houseOf (l : Launch) (G : GE) {ad : Nat → Nat} {M : WM} {O : Nat → Int32} {N K T B R S H Z : WM} {v k : Int32} {nT : Nat} (w : WFP N nT) (hM : M = mkX O N K T B R S H Z)  : CT l G yX5_houseOf cX5_houseOf 3 (some .int) 2 [.ref (ad 0), .int v, .int k] 54 ad (shX G ad) M (PI (fun r u => r = hofS N nT v k ∧ u = M)) := by
  refine CT.of (own := RX5) rfl rfl (le_b rfl) fun p e s m args below meth c A C0 hr => ?_
  refine AW.lo (ls2 := [(0, _), (1, _), (2, _)]) rfl ?_
  subst hM
  refine a_iload_n C0 1 dX5_houseOf_0 rfl rfl ?_
  refine a_callS _ 1 C0 EM.z (c_X5_isHouse l G) u_c_X5_isHouse u_m_X5_101 u_st_X5_isHouse u_in_X5 hy_X5_isHouse.2 (hRk rfl) rfl rfl (le_b rfl) dX5_houseOf_1 (k_ro EM.z ?_)
  refine a_if_neb C0 9 dX5_houseOf_4 rfl (fun h4 => ?_) (fun h4 => ?_)
  · have hv := ho_in h4
    have hx : IX v (ix v) 8 := IX.v hv
    refine a_iload_n C0 2 dX5_houseOf_9 rfl rfl ?_
    refine a_case 0 (fun h10 => ?_) (fun h10n_0 => ?_)
    · refine a_tsIn C0 48 dX5_houseOf_10 (by decide) (by decide) rfl rfl ?_
      refine a_aload_n C0 0 dX5_houseOf_48 rfl rfl ?_
      refine g_X5_10 C0 (lt_b rfl) rfl rfl dX5_houseOf_49 ?_
      refine g_X5_138 C0 (lt_b rfl) rfl rfl dX5_houseOf_52 ?_
      refine a_iload_n C0 1 dX5_houseOf_55 rfl rfl ?_
      refine a_iald C0 _ (lt_b rfl) rfl hx.1 hx.2 dX5_houseOf_56 ?_
      refine a_iret C0 hr dX5_houseOf_57 ?_
      first
        | exact rt_ (if_neg h4).symm
        | exact rt_ (by unfold hofS; rw [if_pos h4, if_neg h10n_0, if_neg h10n_1, if_pos h10]; exact (bI_t h76).symm)
        | exact rt_ (by unfold hofS; rw [if_pos h4, if_neg h10n_0, if_neg h10n_1, if_pos h10]; exact (bI_f h76).symm)
        | exact rt_ (by unfold hofS; rw [if_pos h4, if_neg h10n_0, if_neg h10n_1, if_neg h10n_2, if_neg h10n_3, if_neg h10n_4, if_neg h10n_5])
        | exact rt_ (by unfold hofS; rw [if_pos h4, if_neg h10n_0, if_neg h10n_1, if_neg h10n_2, if_neg h10n_3, if_neg h10n_4, if_pos h10]; try rfl)
        | exact rt_ (by unfold hofS; rw [if_pos h4, if_neg h10n_0, if_neg h10n_1, if_neg h10n_2, if_neg h10n_3, if_pos h10]; try rfl)
        | exact rt_ (by unfold hofS; rw [if_pos h4, if_neg h10n_0, if_neg h10n_1, if_neg h10n_2, if_pos h10]; try rfl)
        | exact rt_ (by unfold hofS; rw [if_pos h4, if_neg h10n_0, if_pos h10]; try rfl)
        | exact rt_ (by unfold hofS; rw [if_pos h4, if_pos h10]; try rfl)
    refine a_case 1 (fun h10 => ?_) (fun h10n_1 => ?_)
    · refine a_tsIn C0 58 dX5_houseOf_10 (by decide) (by decide) rfl rfl ?_
      refine a_aload_n C0 0 dX5_houseOf_58 rfl rfl ?_
      refine g_X5_10 C0 (lt_b rfl) rfl rfl dX5_houseOf_59 ?_
      refine g_X5_141 C0 (lt_b rfl) rfl rfl dX5_houseOf_62 ?_
      refine a_iload_n C0 1 dX5_houseOf_65 rfl rfl ?_
      refine a_iald C0 _ (lt_b rfl) rfl hx.1 hx.2 dX5_houseOf_66 ?_
      refine a_iret C0 hr dX5_houseOf_67 ?_
      first
        | exact rt_ (if_neg h4).symm
        | exact rt_ (by unfold hofS; rw [if_pos h4, if_neg h10n_0, if_neg h10n_1, if_pos h10]; exact (bI_t h76).symm)
        | exact rt_ (by unfold hofS; rw [if_pos h4, if_neg h10n_0, if_neg h10n_1, if_pos h10]; exact (bI_f h76).symm)
        | exact rt_ (by unfold hofS; rw [if_pos h4, if_neg h10n_0, if_neg h10n_1, if_neg h10n_2, if_neg h10n_3, if_neg h10n_4, if_neg h10n_5])
        | exact rt_ (by unfold hofS; rw [if_pos h4, if_neg h10n_0, if_neg h10n_1, if_neg h10n_2, if_neg h10n_3, if_neg h10n_4, if_pos h10]; try rfl)
        | exact rt_ (by unfold hofS; rw [if_pos h4, if_neg h10n_0, if_neg h10n_1, if_neg h10n_2, if_neg h10n_3, if_pos h10]; try rfl)
        | exact rt_ (by unfold hofS; rw [if_pos h4, if_neg h10n_0, if_neg h10n_1, if_neg h10n_2, if_pos h10]; try rfl)
        | exact rt_ (by unfold hofS; rw [if_pos h4, if_neg h10n_0, if_pos h10]; try rfl)
        | exact rt_ (by unfold hofS; rw [if_pos h4, if_pos h10]; try rfl)
    refine a_case 2 (fun h10 => ?_) (fun h10n_2 => ?_)
    · refine a_tsIn C0 68 dX5_houseOf_10 (by decide) (by decide) rfl rfl ?_
      refine a_aload_n C0 0 dX5_houseOf_68 rfl rfl ?_
      refine g_X5_10 C0 (lt_b rfl) rfl rfl dX5_houseOf_69 ?_
      refine a_iload_n C0 1 dX5_houseOf_72 rfl rfl ?_
      refine a_callV _ 1 C0 em_XN (c_X1_hasBox l G (ad := fun k => ad (1 + k))) u_c_X1_hasBox u_m_X5_147 u_im_X1_hasBox u_se_X1_hasBox u_in_X1 hy_X1_hasBox rfl (lt_b rfl) rfl (hRk rfl) rfl rfl (le_b rfl) dX5_houseOf_73 (k_ro em_XN ?_)
      refine a_if_eqb C0 83 dX5_houseOf_76 rfl (fun h76 => ?_) (fun h76 => ?_)
      · refine a_iconst C0 0 dX5_houseOf_83 rfl ?_
        refine a_iret C0 hr dX5_houseOf_84 ?_
        first
          | exact rt_ (if_neg h4).symm
          | exact rt_ (by unfold hofS; rw [if_pos h4, if_neg h10n_0, if_neg h10n_1, if_pos h10]; exact (bI_t h76).symm)
          | exact rt_ (by unfold hofS; rw [if_pos h4, if_neg h10n_0, if_neg h10n_1, if_pos h10]; exact (bI_f h76).symm)
          | exact rt_ (by unfold hofS; rw [if_pos h4, if_neg h10n_0, if_neg h10n_1, if_neg h10n_2, if_neg h10n_3, if_neg h10n_4, if_neg h10n_5])
          | exact rt_ (by unfold hofS; rw [if_pos h4, if_neg h10n_0, if_neg h10n_1, if_neg h10n_2, if_neg h10n_3, if_neg h10n_4, if_pos h10]; try rfl)
          | exact rt_ (by unfold hofS; rw [if_pos h4, if_neg h10n_0, if_neg h10n_1, if_neg h10n_2, if_neg h10n_3, if_pos h10]; try rfl)
          | exact rt_ (by unfold hofS; rw [if_pos h4, if_neg h10n_0, if_neg h10n_1, if_neg h10n_2, if_pos h10]; try rfl)
          | exact rt_ (by unfold hofS; rw [if_pos h4, if_neg h10n_0, if_pos h10]; try rfl)
          | exact rt_ (by unfold hofS; rw [if_pos h4, if_pos h10]; try rfl)
      · refine a_iconst C0 1 dX5_houseOf_79 rfl ?_
        refine a_goto C0 84 dX5_houseOf_80 rfl ?_
        refine a_iret C0 hr dX5_houseOf_84 ?_
        first
          | exact rt_ (if_neg h4).symm
          | exact rt_ (by unfold hofS; rw [if_pos h4, if_neg h10n_0, if_neg h10n_1, if_pos h10]; exact (bI_t h76).symm)
          | exact rt_ (by unfold hofS; rw [if_pos h4, if_neg h10n_0, if_neg h10n_1, if_pos h10]; exact (bI_f h76).symm)
          | exact rt_ (by unfold hofS; rw [if_pos h4, if_neg h10n_0, if_neg h10n_1, if_neg h10n_2, if_neg h10n_3, if_neg h10n_4, if_neg h10n_5])
          | exact rt_ (by unfold hofS; rw [if_pos h4, if_neg h10n_0, if_neg h10n_1, if_neg h10n_2, if_neg h10n_3, if_neg h10n_4, if_pos h10]; try rfl)
          | exact rt_ (by unfold hofS; rw [if_pos h4, if_neg h10n_0, if_neg h10n_1, if_neg h10n_2, if_neg h10n_3, if_pos h10]; try rfl)
          | exact rt_ (by unfold hofS; rw [if_pos h4, if_neg h10n_0, if_neg h10n_1, if_neg h10n_2, if_pos h10]; try rfl)
          | exact rt_ (by unfold hofS; rw [if_pos h4, if_neg h10n_0, if_pos h10]; try rfl)
          | exact rt_ (by unfold hofS; rw [if_pos h4, if_pos h10]; try rfl)
    refine a_case 3 (fun h10 => ?_) (fun h10n_3 => ?_)
    · refine a_tsIn C0 85 dX5_houseOf_10 (by decide) (by decide) rfl rfl ?_
      refine a_aload_n C0 0 dX5_houseOf_85 rfl rfl ?_
      refine g_X5_10 C0 (lt_b rfl) rfl rfl dX5_houseOf_86 ?_
      refine a_iload_n C0 1 dX5_houseOf_89 rfl rfl ?_
      refine a_callV _ 1 C0 em_XN (c_X1_talesAt l G w.1 w.2.1 (ad := fun k => ad (1 + k))) u_c_X1_talesAt u_m_X5_150 u_im_X1_talesAt u_se_X1_talesAt u_in_X1 hy_X1_talesAt rfl (lt_b rfl) rfl (hRk rfl) rfl rfl (le_b rfl) dX5_houseOf_90 (k_ro em_XN ?_)
      refine a_iret C0 hr dX5_houseOf_93 ?_
      first
        | exact rt_ (if_neg h4).symm
        | exact rt_ (by unfold hofS; rw [if_pos h4, if_neg h10n_0, if_neg h10n_1, if_pos h10]; exact (bI_t h76).symm)
        | exact rt_ (by unfold hofS; rw [if_pos h4, if_neg h10n_0, if_neg h10n_1, if_pos h10]; exact (bI_f h76).symm)
        | exact rt_ (by unfold hofS; rw [if_pos h4, if_neg h10n_0, if_neg h10n_1, if_neg h10n_2, if_neg h10n_3, if_neg h10n_4, if_neg h10n_5])
        | exact rt_ (by unfold hofS; rw [if_pos h4, if_neg h10n_0, if_neg h10n_1, if_neg h10n_2, if_neg h10n_3, if_neg h10n_4, if_pos h10]; try rfl)
        | exact rt_ (by unfold hofS; rw [if_pos h4, if_neg h10n_0, if_neg h10n_1, if_neg h10n_2, if_neg h10n_3, if_pos h10]; try rfl)
        | exact rt_ (by unfold hofS; rw [if_pos h4, if_neg h10n_0, if_neg h10n_1, if_neg h10n_2, if_pos h10]; try rfl)
        | exact rt_ (by unfold hofS; rw [if_pos h4, if_neg h10n_0, if_pos h10]; try rfl)
        | exact rt_ (by unfold hofS; rw [if_pos h4, if_pos h10]; try rfl)
    refine a_case 4 (fun h10 => ?_) (fun h10n_4 => ?_)
    · refine a_tsIn C0 94 dX5_houseOf_10 (by decide) (by decide) rfl rfl ?_
      refine a_aload_n C0 0 dX5_houseOf_94 rfl rfl ?_
      refine g_X5_10 C0 (lt_b rfl) rfl rfl dX5_houseOf_95 ?_
      refine a_iload_n C0 1 dX5_houseOf_98 rfl rfl ?_
      refine a_callV _ 1 C0 em_XN (c_X1_loopFrom l G hv w.2.2.1 (ad := fun k => ad (1 + k))) u_c_X1_loopFrom u_m_X5_153 u_im_X1_loopFrom u_se_X1_loopFrom u_in_X1 hy_X1_loopFrom rfl (lt_b rfl) rfl (hRk rfl) rfl rfl (le_b rfl) dX5_houseOf_99 (k_ro em_XN ?_)
      refine a_iret C0 hr dX5_houseOf_102 ?_
      first
        | exact rt_ (if_neg h4).symm
        | exact rt_ (by unfold hofS; rw [if_pos h4, if_neg h10n_0, if_neg h10n_1, if_pos h10]; exact (bI_t h76).symm)
        | exact rt_ (by unfold hofS; rw [if_pos h4, if_neg h10n_0, if_neg h10n_1, if_pos h10]; exact (bI_f h76).symm)
        | exact rt_ (by unfold hofS; rw [if_pos h4, if_neg h10n_0, if_neg h10n_1, if_neg h10n_2, if_neg h10n_3, if_neg h10n_4, if_neg h10n_5])
        | exact rt_ (by unfold hofS; rw [if_pos h4, if_neg h10n_0, if_neg h10n_1, if_neg h10n_2, if_neg h10n_3, if_neg h10n_4, if_pos h10]; try rfl)
        | exact rt_ (by unfold hofS; rw [if_pos h4, if_neg h10n_0, if_neg h10n_1, if_neg h10n_2, if_neg h10n_3, if_pos h10]; try rfl)
        | exact rt_ (by unfold hofS; rw [if_pos h4, if_neg h10n_0, if_neg h10n_1, if_neg h10n_2, if_pos h10]; try rfl)
        | exact rt_ (by unfold hofS; rw [if_pos h4, if_neg h10n_0, if_pos h10]; try rfl)
        | exact rt_ (by unfold hofS; rw [if_pos h4, if_pos h10]; try rfl)
    refine a_case 5 (fun h10 => ?_) (fun h10n_5 => ?_)
    · refine a_tsIn C0 103 dX5_houseOf_10 (by decide) (by decide) rfl rfl ?_
      refine a_aload_n C0 0 dX5_houseOf_103 rfl rfl ?_
      refine g_X5_10 C0 (lt_b rfl) rfl rfl dX5_houseOf_104 ?_
      refine a_iload_n C0 1 dX5_houseOf_107 rfl rfl ?_
      refine a_callV _ 1 C0 em_XN (c_X1_talesHeardBy l G w.1 w.2.1 (ad := fun k => ad (1 + k))) u_c_X1_talesHeardBy u_m_X5_156 u_im_X1_talesHeardBy u_se_X1_talesHeardBy u_in_X1 hy_X1_talesHeardBy rfl (lt_b rfl) rfl (hRk rfl) rfl rfl (le_b rfl) dX5_houseOf_108 (k_ro em_XN ?_)
      refine a_iret C0 hr dX5_houseOf_111 ?_
      first
        | exact rt_ (if_neg h4).symm
        | exact rt_ (by unfold hofS; rw [if_pos h4, if_neg h10n_0, if_neg h10n_1, if_pos h10]; exact (bI_t h76).symm)
        | exact rt_ (by unfold hofS; rw [if_pos h4, if_neg h10n_0, if_neg h10n_1, if_pos h10]; exact (bI_f h76).symm)
        | exact rt_ (by unfold hofS; rw [if_pos h4, if_neg h10n_0, if_neg h10n_1, if_neg h10n_2, if_neg h10n_3, if_neg h10n_4, if_neg h10n_5])
        | exact rt_ (by unfold hofS; rw [if_pos h4, if_neg h10n_0, if_neg h10n_1, if_neg h10n_2, if_neg h10n_3, if_neg h10n_4, if_pos h10]; try rfl)
        | exact rt_ (by unfold hofS; rw [if_pos h4, if_neg h10n_0, if_neg h10n_1, if_neg h10n_2, if_neg h10n_3, if_pos h10]; try rfl)
        | exact rt_ (by unfold hofS; rw [if_pos h4, if_neg h10n_0, if_neg h10n_1, if_neg h10n_2, if_pos h10]; try rfl)
        | exact rt_ (by unfold hofS; rw [if_pos h4, if_neg h10n_0, if_pos h10]; try rfl)
        | exact rt_ (by unfold hofS; rw [if_pos h4, if_pos h10]; try rfl)
    refine a_tsOut C0 112 dX5_houseOf_10 (by have t0 := lv_neT (a := 0) h10n_0 rfl; have t1 := lv_neT (a := 1) h10n_1 rfl; have t2 := lv_neT (a := 2) h10n_2 rfl; have t3 := lv_neT (a := 3) h10n_3 rfl; have t4 := lv_neT (a := 4) h10n_4 rfl; have t5 := lv_neT (a := 5) h10n_5 rfl; omega) rfl ?_
    refine a_iconst C0 (-1) dX5_houseOf_112 rfl ?_
    refine a_iret C0 hr dX5_houseOf_113 ?_
    first
      | exact rt_ (if_neg h4).symm
      | exact rt_ (by unfold hofS; rw [if_pos h4, if_neg h10n_0, if_neg h10n_1, if_pos h10]; exact (bI_t h76).symm)
      | exact rt_ (by unfold hofS; rw [if_pos h4, if_neg h10n_0, if_neg h10n_1, if_pos h10]; exact (bI_f h76).symm)
      | exact rt_ (by unfold hofS; rw [if_pos h4, if_neg h10n_0, if_neg h10n_1, if_neg h10n_2, if_neg h10n_3, if_neg h10n_4, if_neg h10n_5])
      | exact rt_ (by unfold hofS; rw [if_pos h4, if_neg h10n_0, if_neg h10n_1, if_neg h10n_2, if_neg h10n_3, if_neg h10n_4, if_pos h10]; try rfl)
      | exact rt_ (by unfold hofS; rw [if_pos h4, if_neg h10n_0, if_neg h10n_1, if_neg h10n_2, if_neg h10n_3, if_pos h10]; try rfl)
      | exact rt_ (by unfold hofS; rw [if_pos h4, if_neg h10n_0, if_neg h10n_1, if_neg h10n_2, if_pos h10]; try rfl)
      | exact rt_ (by unfold hofS; rw [if_pos h4, if_neg h10n_0, if_pos h10]; try rfl)
      | exact rt_ (by unfold hofS; rw [if_pos h4, if_pos h10]; try rfl)
  · refine a_iconst C0 (-1) dX5_houseOf_7 rfl ?_
    refine a_iret C0 hr dX5_houseOf_8 ?_
    first
      | exact rt_ (if_neg h4).symm
      | exact rt_ (by unfold hofS; rw [if_pos h4, if_neg h10n_0, if_neg h10n_1, if_pos h10]; exact (bI_t h76).symm)
      | exact rt_ (by unfold hofS; rw [if_pos h4, if_neg h10n_0, if_neg h10n_1, if_pos h10]; exact (bI_f h76).symm)
      | exact rt_ (by unfold hofS; rw [if_pos h4, if_neg h10n_0, if_neg h10n_1, if_neg h10n_2, if_neg h10n_3, if_neg h10n_4, if_neg h10n_5])
      | exact rt_ (by unfold hofS; rw [if_pos h4, if_neg h10n_0, if_neg h10n_1, if_neg h10n_2, if_neg h10n_3, if_neg h10n_4, if_pos h10]; try rfl)
      | exact rt_ (by unfold hofS; rw [if_pos h4, if_neg h10n_0, if_neg h10n_1, if_neg h10n_2, if_neg h10n_3, if_pos h10]; try rfl)
      | exact rt_ (by unfold hofS; rw [if_pos h4, if_neg h10n_0, if_neg h10n_1, if_neg h10n_2, if_pos h10]; try rfl)
      | exact rt_ (by unfold hofS; rw [if_pos h4, if_neg h10n_0, if_pos h10]; try rfl)
      | exact rt_ (by unfold hofS; rw [if_pos h4, if_pos h10]; try rfl)
abbrev houC (v k y : Int32) : Prop := isHo v ∧ ((k = 0 ∧ isHo y) ∨ (k = 1 ∧ (0 ≤ y ∧ y ≤ 99)) ∨ (k = 2 ∧ (0 ≤ y ∧ y ≤ 1)))
def houN (N : WM) (v k y : Int32) : WM := if k = 0 then up2 N 2 (ix v) y else if k = 1 then up2 N 3 (ix v) y else up2 N 0 7 (if y = 1 then N 0 7 ||| 1 <<< (v &&& 31) else N 0 7 &&& (1 <<< (v &&& 31) ^^^ -1))

set_option maxRecDepth 100000 in
set_option maxHeartbeats 4000000 in
theorem c_X5_house (l : Launch) (G : GE) {ad : Nat → Nat} {M : WM} {O : Nat → Int32} {N K T B R S H Z : WM} {v k y : Int32} {nT : Nat} (w : WFP N nT) (hM : M = mkX O N K T B R S H Z)  : CT l G yX5_house cX5_house 5 (some .int) 3 [.ref (ad 0), .int v, .int k, .int y] 54 ad (shX G ad) M (PI (fun r u => r = (if houC v k y then hofS N nT v k else -1) ∧ u = (mkX O (if houC v k y then houN N v k y else N) K T B R S H Z))) := by
  refine CT.of (own := RX5) rfl rfl (le_b rfl) fun p e s m args below meth c A C0 hr => ?_
  refine AW.lo (ls2 := [(0, _), (1, _), (2, _), (3, _)]) rfl ?_
  subst hM
  refine a_iload_n C0 1 dX5_house_0 rfl rfl ?_
  refine a_callS _ 1 C0 EM.z (c_X5_isHouse l G) u_c_X5_isHouse u_m_X5_101 u_st_X5_isHouse u_in_X5 hy_X5_isHouse.2 (hRk rfl) rfl rfl (le_b rfl) dX5_house_1 (k_ro EM.z ?_)
  refine a_if_neb C0 9 dX5_house_4 rfl (fun h4 => ?_) (fun h4 => ?_)
  · have hv := ho_in h4
    have hx : IX v (ix v) 8 := IX.v hv
    refine a_aload_n C0 0 dX5_house_9 rfl rfl ?_
    refine a_iload_n C0 1 dX5_house_10 rfl rfl ?_
    refine a_iload_n C0 2 dX5_house_11 rfl rfl ?_
    refine a_callV _ 2 C0 EM.refl (c_X5_houseOf l G w rfl) u_c_X5_houseOf u_m_X5_134 u_im_X5_houseOf u_se_X5_houseOf u_in_X5 hy_X5_houseOf rfl (lt_b rfl) rfl (hRk rfl) rfl rfl (le_b rfl) dX5_house_12 (k_ro EM.refl ?_)
    refine a_istore (ls2 := [(4, _), (0, _), (1, _), (2, _), (3, _)]) C0 dX5_house_15 (lt_b rfl) rfl ?_
    refine a_iload_n C0 3 dX5_house_17 rfl rfl ?_
    refine a_if_ne C0 41 dX5_house_18 rfl (fun h18 => ?_) (fun h18 => ?_)
    · refine a_iload_n C0 3 dX5_house_41 rfl rfl ?_
      refine a_iconst C0 1 dX5_house_42 rfl ?_
      refine a_icmp_ne C0 69 dX5_house_43 rfl (fun h43 => ?_) (fun h43 => ?_)
      · refine a_iload_n C0 3 dX5_house_69 rfl rfl ?_
        refine a_iconst C0 2 dX5_house_70 rfl ?_
        refine a_icmp_ne C0 125 dX5_house_71 rfl (fun h71 => ?_) (fun h71 => ?_)
        · refine a_iconst C0 (-1) dX5_house_125 rfl ?_
          refine a_iret C0 hr dX5_house_126 ?_
          have hc : ¬ houC v k y := by
            rintro ⟨-, q | q | q⟩
            · first
                | exact h18 q.1
                | exact h25 q.2
            · first
                | exact h43 q.1
                | exact h53 q.2
            · first
                | exact h71 q.1
                | exact h80 q.2
          exact rd_ (if_neg hc).symm (by rw [if_neg hc])
        · refine a_iload_n C0 4 dX5_house_74 rfl rfl ?_
          refine a_iconst C0 0 dX5_house_75 rfl ?_
          refine a_iconst C0 1 dX5_house_76 rfl ?_
          refine a_callS _ 3 C0 EM.z (c_X5_isWithin l G) u_c_X5_isWithin u_m_X5_55 u_st_X5_isWithin u_in_X5 hy_X5_isWithin.2 (hRk rfl) rfl rfl (le_b rfl) dX5_house_77 (k_ro EM.z ?_)
          refine a_if_eqb C0 125 dX5_house_80 rfl (fun h80 => ?_) (fun h80 => ?_)
          · refine a_iconst C0 (-1) dX5_house_125 rfl ?_
            refine a_iret C0 hr dX5_house_126 ?_
            have hc : ¬ houC v k y := by
              rintro ⟨-, q | q | q⟩
              · first
                  | exact h18 q.1
                  | exact h25 q.2
              · first
                  | exact h43 q.1
                  | exact h53 q.2
              · first
                  | exact h71 q.1
                  | exact h80 q.2
            exact rd_ (if_neg hc).symm (by rw [if_neg hc])
          · refine a_aload_n C0 1 dX5_house_83 rfl rfl ?_
            refine g_X5_10 C0 (lt_b rfl) rfl rfl dX5_house_84 ?_
            refine a_iload_n C0 4 dX5_house_87 rfl rfl ?_
            refine a_iconst C0 1 dX5_house_88 rfl ?_
            refine a_icmp_ne C0 106 dX5_house_89 rfl (fun h89 => ?_) (fun h89 => ?_)
            · refine a_aload_n C0 1 dX5_house_106 rfl rfl ?_
              refine g_X5_10 C0 (lt_b rfl) rfl rfl dX5_house_107 ?_
              refine g_X5_144 C0 (lt_b rfl) rfl rfl dX5_house_110 ?_
              refine a_iconst C0 1 dX5_house_113 rfl ?_
              refine a_iload_n C0 2 dX5_house_114 rfl rfl ?_
              refine a_ishl C0 dX5_house_115 ?_
              refine a_iconst C0 (-1) dX5_house_116 rfl ?_
              refine a_ixor C0 dX5_house_117 ?_
              refine a_iand C0 dX5_house_118 ?_
              refine p_X5_144 C0 (lt_b rfl) rfl (lt_b rfl) rfl rfl dX5_house_119 ?_
              have hc : houC v k y := ⟨h4, Or.inr (Or.inr ⟨h71, h80⟩)⟩
              first
                | refine AW.cg (M := (mkX O (up2 N 0 7 (N 0 7 ||| 1 <<< (v &&& 31))) K T B R S H Z)) (fun c hc => mkX_Nu (q := 0) (by decide) c hc) ?_
                | refine AW.cg (M := (mkX O (up2 N 0 7 (N 0 7 &&& (1 <<< (v &&& 31) ^^^ -1))) K T B R S H Z)) (fun c hc => mkX_Nu (q := 0) (by decide) c hc) ?_
              refine a_iload C0 0 dX5_house_122 rfl ?_
              refine a_iret C0 hr dX5_house_124 ?_
              have k0 : ¬ k = 0 := by rw [h71]; decide
              have k1 : ¬ k = 1 := by rw [h71]; decide
              first
                | exact rd_ (by rw [if_pos hc]) (by rw [if_pos hc]; unfold houN; rw [if_neg k0, if_neg k1, if_pos h89])
                | exact rd_ (by rw [if_pos hc]) (by rw [if_pos hc]; unfold houN; rw [if_neg k0, if_neg k1, if_neg h89])
            · refine a_aload_n C0 1 dX5_house_92 rfl rfl ?_
              refine g_X5_10 C0 (lt_b rfl) rfl rfl dX5_house_93 ?_
              refine g_X5_144 C0 (lt_b rfl) rfl rfl dX5_house_96 ?_
              refine a_iconst C0 1 dX5_house_99 rfl ?_
              refine a_iload_n C0 2 dX5_house_100 rfl rfl ?_
              refine a_ishl C0 dX5_house_101 ?_
              refine a_ior C0 dX5_house_102 ?_
              refine a_goto C0 119 dX5_house_103 rfl ?_
              refine p_X5_144 C0 (lt_b rfl) rfl (lt_b rfl) rfl rfl dX5_house_119 ?_
              have hc : houC v k y := ⟨h4, Or.inr (Or.inr ⟨h71, h80⟩)⟩
              first
                | refine AW.cg (M := (mkX O (up2 N 0 7 (N 0 7 ||| 1 <<< (v &&& 31))) K T B R S H Z)) (fun c hc => mkX_Nu (q := 0) (by decide) c hc) ?_
                | refine AW.cg (M := (mkX O (up2 N 0 7 (N 0 7 &&& (1 <<< (v &&& 31) ^^^ -1))) K T B R S H Z)) (fun c hc => mkX_Nu (q := 0) (by decide) c hc) ?_
              refine a_iload C0 0 dX5_house_122 rfl ?_
              refine a_iret C0 hr dX5_house_124 ?_
              have k0 : ¬ k = 0 := by rw [h71]; decide
              have k1 : ¬ k = 1 := by rw [h71]; decide
              first
                | exact rd_ (by rw [if_pos hc]) (by rw [if_pos hc]; unfold houN; rw [if_neg k0, if_neg k1, if_pos h89])
                | exact rd_ (by rw [if_pos hc]) (by rw [if_pos hc]; unfold houN; rw [if_neg k0, if_neg k1, if_neg h89])
      · refine a_iload_n C0 4 dX5_house_46 rfl rfl ?_
        refine a_iconst C0 0 dX5_house_47 rfl ?_
        refine a_bipush C0 99 dX5_house_48 rfl ?_
        refine a_callS _ 3 C0 EM.z (c_X5_isWithin l G) u_c_X5_isWithin u_m_X5_55 u_st_X5_isWithin u_in_X5 hy_X5_isWithin.2 (hRk rfl) rfl rfl (le_b rfl) dX5_house_50 (k_ro EM.z ?_)
        refine a_if_eqb C0 69 dX5_house_53 rfl (fun h53 => ?_) (fun h53 => ?_)
        · refine a_iload_n C0 3 dX5_house_69 rfl rfl ?_
          refine a_iconst C0 2 dX5_house_70 rfl ?_
          refine a_icmp_ne C0 125 dX5_house_71 rfl (fun h71 => ?_) (fun h71 => ?_)
          · refine a_iconst C0 (-1) dX5_house_125 rfl ?_
            refine a_iret C0 hr dX5_house_126 ?_
            have hc : ¬ houC v k y := by
              rintro ⟨-, q | q | q⟩
              · first
                  | exact h18 q.1
                  | exact h25 q.2
              · first
                  | exact h43 q.1
                  | exact h53 q.2
              · first
                  | exact h71 q.1
                  | exact h80 q.2
            exact rd_ (if_neg hc).symm (by rw [if_neg hc])
          · refine a_iload_n C0 4 dX5_house_74 rfl rfl ?_
            refine a_iconst C0 0 dX5_house_75 rfl ?_
            refine a_iconst C0 1 dX5_house_76 rfl ?_
            refine a_callS _ 3 C0 EM.z (c_X5_isWithin l G) u_c_X5_isWithin u_m_X5_55 u_st_X5_isWithin u_in_X5 hy_X5_isWithin.2 (hRk rfl) rfl rfl (le_b rfl) dX5_house_77 (k_ro EM.z ?_)
            refine a_if_eqb C0 125 dX5_house_80 rfl (fun h80 => ?_) (fun h80 => ?_)
            · refine a_iconst C0 (-1) dX5_house_125 rfl ?_
              refine a_iret C0 hr dX5_house_126 ?_
              have hc : ¬ houC v k y := by
                rintro ⟨-, q | q | q⟩
                · first
                    | exact h18 q.1
                    | exact h25 q.2
                · first
                    | exact h43 q.1
                    | exact h53 q.2
                · first
                    | exact h71 q.1
                    | exact h80 q.2
              exact rd_ (if_neg hc).symm (by rw [if_neg hc])
            · refine a_aload_n C0 1 dX5_house_83 rfl rfl ?_
              refine g_X5_10 C0 (lt_b rfl) rfl rfl dX5_house_84 ?_
              refine a_iload_n C0 4 dX5_house_87 rfl rfl ?_
              refine a_iconst C0 1 dX5_house_88 rfl ?_
              refine a_icmp_ne C0 106 dX5_house_89 rfl (fun h89 => ?_) (fun h89 => ?_)
              · refine a_aload_n C0 1 dX5_house_106 rfl rfl ?_
                refine g_X5_10 C0 (lt_b rfl) rfl rfl dX5_house_107 ?_
                refine g_X5_144 C0 (lt_b rfl) rfl rfl dX5_house_110 ?_
                refine a_iconst C0 1 dX5_house_113 rfl ?_
                refine a_iload_n C0 2 dX5_house_114 rfl rfl ?_
                refine a_ishl C0 dX5_house_115 ?_
                refine a_iconst C0 (-1) dX5_house_116 rfl ?_
                refine a_ixor C0 dX5_house_117 ?_
                refine a_iand C0 dX5_house_118 ?_
                refine p_X5_144 C0 (lt_b rfl) rfl (lt_b rfl) rfl rfl dX5_house_119 ?_
                have hc : houC v k y := ⟨h4, Or.inr (Or.inr ⟨h71, h80⟩)⟩
                first
                  | refine AW.cg (M := (mkX O (up2 N 0 7 (N 0 7 ||| 1 <<< (v &&& 31))) K T B R S H Z)) (fun c hc => mkX_Nu (q := 0) (by decide) c hc) ?_
                  | refine AW.cg (M := (mkX O (up2 N 0 7 (N 0 7 &&& (1 <<< (v &&& 31) ^^^ -1))) K T B R S H Z)) (fun c hc => mkX_Nu (q := 0) (by decide) c hc) ?_
                refine a_iload C0 0 dX5_house_122 rfl ?_
                refine a_iret C0 hr dX5_house_124 ?_
                have k0 : ¬ k = 0 := by rw [h71]; decide
                have k1 : ¬ k = 1 := by rw [h71]; decide
                first
                  | exact rd_ (by rw [if_pos hc]) (by rw [if_pos hc]; unfold houN; rw [if_neg k0, if_neg k1, if_pos h89])
                  | exact rd_ (by rw [if_pos hc]) (by rw [if_pos hc]; unfold houN; rw [if_neg k0, if_neg k1, if_neg h89])
              · refine a_aload_n C0 1 dX5_house_92 rfl rfl ?_
                refine g_X5_10 C0 (lt_b rfl) rfl rfl dX5_house_93 ?_
                refine g_X5_144 C0 (lt_b rfl) rfl rfl dX5_house_96 ?_
                refine a_iconst C0 1 dX5_house_99 rfl ?_
                refine a_iload_n C0 2 dX5_house_100 rfl rfl ?_
                refine a_ishl C0 dX5_house_101 ?_
                refine a_ior C0 dX5_house_102 ?_
                refine a_goto C0 119 dX5_house_103 rfl ?_
                refine p_X5_144 C0 (lt_b rfl) rfl (lt_b rfl) rfl rfl dX5_house_119 ?_
                have hc : houC v k y := ⟨h4, Or.inr (Or.inr ⟨h71, h80⟩)⟩
                first
                  | refine AW.cg (M := (mkX O (up2 N 0 7 (N 0 7 ||| 1 <<< (v &&& 31))) K T B R S H Z)) (fun c hc => mkX_Nu (q := 0) (by decide) c hc) ?_
                  | refine AW.cg (M := (mkX O (up2 N 0 7 (N 0 7 &&& (1 <<< (v &&& 31) ^^^ -1))) K T B R S H Z)) (fun c hc => mkX_Nu (q := 0) (by decide) c hc) ?_
                refine a_iload C0 0 dX5_house_122 rfl ?_
                refine a_iret C0 hr dX5_house_124 ?_
                have k0 : ¬ k = 0 := by rw [h71]; decide
                have k1 : ¬ k = 1 := by rw [h71]; decide
                first
                  | exact rd_ (by rw [if_pos hc]) (by rw [if_pos hc]; unfold houN; rw [if_neg k0, if_neg k1, if_pos h89])
                  | exact rd_ (by rw [if_pos hc]) (by rw [if_pos hc]; unfold houN; rw [if_neg k0, if_neg k1, if_neg h89])
        · refine a_aload_n C0 1 dX5_house_56 rfl rfl ?_
          refine g_X5_10 C0 (lt_b rfl) rfl rfl dX5_house_57 ?_
          refine g_X5_141 C0 (lt_b rfl) rfl rfl dX5_house_60 ?_
          refine a_iload_n C0 2 dX5_house_63 rfl rfl ?_
          refine a_iload_n C0 4 dX5_house_64 rfl rfl ?_
          refine a_iast C0 _ (lt_b rfl) (fun _ => rfl) hx.1 hx.2 dX5_house_65 ?_
          have hc : houC v k y := ⟨h4, Or.inr (Or.inl ⟨h43, h53⟩)⟩
          refine AW.cg (M := (mkX O (up2 N 3 (ix v) y) K T B R S H Z)) (fun c hc => mkX_Nu (q := 3) (by decide) c hc) ?_
          refine a_iload C0 0 dX5_house_66 rfl ?_
          refine a_iret C0 hr dX5_house_68 ?_
          have k0 : ¬ k = 0 := by rw [h43]; decide
          exact rd_ (by rw [if_pos hc]) (by rw [if_pos hc]; unfold houN; rw [if_neg k0, if_pos h43])
    · refine a_iload_n C0 4 dX5_house_21 rfl rfl ?_
      refine a_callS _ 1 C0 EM.z (c_X5_isHouse l G) u_c_X5_isHouse u_m_X5_101 u_st_X5_isHouse u_in_X5 hy_X5_isHouse.2 (hRk rfl) rfl rfl (le_b rfl) dX5_house_22 (k_ro EM.z ?_)
      refine a_if_eqb C0 41 dX5_house_25 rfl (fun h25 => ?_) (fun h25 => ?_)
      · refine a_iload_n C0 3 dX5_house_41 rfl rfl ?_
        refine a_iconst C0 1 dX5_house_42 rfl ?_
        refine a_icmp_ne C0 69 dX5_house_43 rfl (fun h43 => ?_) (fun h43 => ?_)
        · refine a_iload_n C0 3 dX5_house_69 rfl rfl ?_
          refine a_iconst C0 2 dX5_house_70 rfl ?_
          refine a_icmp_ne C0 125 dX5_house_71 rfl (fun h71 => ?_) (fun h71 => ?_)
          · refine a_iconst C0 (-1) dX5_house_125 rfl ?_
            refine a_iret C0 hr dX5_house_126 ?_
            have hc : ¬ houC v k y := by
              rintro ⟨-, q | q | q⟩
              · first
                  | exact h18 q.1
                  | exact h25 q.2
              · first
                  | exact h43 q.1
                  | exact h53 q.2
              · first
                  | exact h71 q.1
                  | exact h80 q.2
            exact rd_ (if_neg hc).symm (by rw [if_neg hc])
          · refine a_iload_n C0 4 dX5_house_74 rfl rfl ?_
            refine a_iconst C0 0 dX5_house_75 rfl ?_
            refine a_iconst C0 1 dX5_house_76 rfl ?_
            refine a_callS _ 3 C0 EM.z (c_X5_isWithin l G) u_c_X5_isWithin u_m_X5_55 u_st_X5_isWithin u_in_X5 hy_X5_isWithin.2 (hRk rfl) rfl rfl (le_b rfl) dX5_house_77 (k_ro EM.z ?_)
            refine a_if_eqb C0 125 dX5_house_80 rfl (fun h80 => ?_) (fun h80 => ?_)
            · refine a_iconst C0 (-1) dX5_house_125 rfl ?_
              refine a_iret C0 hr dX5_house_126 ?_
              have hc : ¬ houC v k y := by
                rintro ⟨-, q | q | q⟩
                · first
                    | exact h18 q.1
                    | exact h25 q.2
                · first
                    | exact h43 q.1
                    | exact h53 q.2
                · first
                    | exact h71 q.1
                    | exact h80 q.2
              exact rd_ (if_neg hc).symm (by rw [if_neg hc])
            · refine a_aload_n C0 1 dX5_house_83 rfl rfl ?_
              refine g_X5_10 C0 (lt_b rfl) rfl rfl dX5_house_84 ?_
              refine a_iload_n C0 4 dX5_house_87 rfl rfl ?_
              refine a_iconst C0 1 dX5_house_88 rfl ?_
              refine a_icmp_ne C0 106 dX5_house_89 rfl (fun h89 => ?_) (fun h89 => ?_)
              · refine a_aload_n C0 1 dX5_house_106 rfl rfl ?_
                refine g_X5_10 C0 (lt_b rfl) rfl rfl dX5_house_107 ?_
                refine g_X5_144 C0 (lt_b rfl) rfl rfl dX5_house_110 ?_
                refine a_iconst C0 1 dX5_house_113 rfl ?_
                refine a_iload_n C0 2 dX5_house_114 rfl rfl ?_
                refine a_ishl C0 dX5_house_115 ?_
                refine a_iconst C0 (-1) dX5_house_116 rfl ?_
                refine a_ixor C0 dX5_house_117 ?_
                refine a_iand C0 dX5_house_118 ?_
                refine p_X5_144 C0 (lt_b rfl) rfl (lt_b rfl) rfl rfl dX5_house_119 ?_
                have hc : houC v k y := ⟨h4, Or.inr (Or.inr ⟨h71, h80⟩)⟩
                first
                  | refine AW.cg (M := (mkX O (up2 N 0 7 (N 0 7 ||| 1 <<< (v &&& 31))) K T B R S H Z)) (fun c hc => mkX_Nu (q := 0) (by decide) c hc) ?_
                  | refine AW.cg (M := (mkX O (up2 N 0 7 (N 0 7 &&& (1 <<< (v &&& 31) ^^^ -1))) K T B R S H Z)) (fun c hc => mkX_Nu (q := 0) (by decide) c hc) ?_
                refine a_iload C0 0 dX5_house_122 rfl ?_
                refine a_iret C0 hr dX5_house_124 ?_
                have k0 : ¬ k = 0 := by rw [h71]; decide
                have k1 : ¬ k = 1 := by rw [h71]; decide
                first
                  | exact rd_ (by rw [if_pos hc]) (by rw [if_pos hc]; unfold houN; rw [if_neg k0, if_neg k1, if_pos h89])
                  | exact rd_ (by rw [if_pos hc]) (by rw [if_pos hc]; unfold houN; rw [if_neg k0, if_neg k1, if_neg h89])
              · refine a_aload_n C0 1 dX5_house_92 rfl rfl ?_
                refine g_X5_10 C0 (lt_b rfl) rfl rfl dX5_house_93 ?_
                refine g_X5_144 C0 (lt_b rfl) rfl rfl dX5_house_96 ?_
                refine a_iconst C0 1 dX5_house_99 rfl ?_
                refine a_iload_n C0 2 dX5_house_100 rfl rfl ?_
                refine a_ishl C0 dX5_house_101 ?_
                refine a_ior C0 dX5_house_102 ?_
                refine a_goto C0 119 dX5_house_103 rfl ?_
                refine p_X5_144 C0 (lt_b rfl) rfl (lt_b rfl) rfl rfl dX5_house_119 ?_
                have hc : houC v k y := ⟨h4, Or.inr (Or.inr ⟨h71, h80⟩)⟩
                first
                  | refine AW.cg (M := (mkX O (up2 N 0 7 (N 0 7 ||| 1 <<< (v &&& 31))) K T B R S H Z)) (fun c hc => mkX_Nu (q := 0) (by decide) c hc) ?_
                  | refine AW.cg (M := (mkX O (up2 N 0 7 (N 0 7 &&& (1 <<< (v &&& 31) ^^^ -1))) K T B R S H Z)) (fun c hc => mkX_Nu (q := 0) (by decide) c hc) ?_
                refine a_iload C0 0 dX5_house_122 rfl ?_
                refine a_iret C0 hr dX5_house_124 ?_
                have k0 : ¬ k = 0 := by rw [h71]; decide
                have k1 : ¬ k = 1 := by rw [h71]; decide
                first
                  | exact rd_ (by rw [if_pos hc]) (by rw [if_pos hc]; unfold houN; rw [if_neg k0, if_neg k1, if_pos h89])
                  | exact rd_ (by rw [if_pos hc]) (by rw [if_pos hc]; unfold houN; rw [if_neg k0, if_neg k1, if_neg h89])
        · refine a_iload_n C0 4 dX5_house_46 rfl rfl ?_
          refine a_iconst C0 0 dX5_house_47 rfl ?_
          refine a_bipush C0 99 dX5_house_48 rfl ?_
          refine a_callS _ 3 C0 EM.z (c_X5_isWithin l G) u_c_X5_isWithin u_m_X5_55 u_st_X5_isWithin u_in_X5 hy_X5_isWithin.2 (hRk rfl) rfl rfl (le_b rfl) dX5_house_50 (k_ro EM.z ?_)
          refine a_if_eqb C0 69 dX5_house_53 rfl (fun h53 => ?_) (fun h53 => ?_)
          · refine a_iload_n C0 3 dX5_house_69 rfl rfl ?_
            refine a_iconst C0 2 dX5_house_70 rfl ?_
            refine a_icmp_ne C0 125 dX5_house_71 rfl (fun h71 => ?_) (fun h71 => ?_)
            · refine a_iconst C0 (-1) dX5_house_125 rfl ?_
              refine a_iret C0 hr dX5_house_126 ?_
              have hc : ¬ houC v k y := by
                rintro ⟨-, q | q | q⟩
                · first
                    | exact h18 q.1
                    | exact h25 q.2
                · first
                    | exact h43 q.1
                    | exact h53 q.2
                · first
                    | exact h71 q.1
                    | exact h80 q.2
              exact rd_ (if_neg hc).symm (by rw [if_neg hc])
            · refine a_iload_n C0 4 dX5_house_74 rfl rfl ?_
              refine a_iconst C0 0 dX5_house_75 rfl ?_
              refine a_iconst C0 1 dX5_house_76 rfl ?_
              refine a_callS _ 3 C0 EM.z (c_X5_isWithin l G) u_c_X5_isWithin u_m_X5_55 u_st_X5_isWithin u_in_X5 hy_X5_isWithin.2 (hRk rfl) rfl rfl (le_b rfl) dX5_house_77 (k_ro EM.z ?_)
              refine a_if_eqb C0 125 dX5_house_80 rfl (fun h80 => ?_) (fun h80 => ?_)
              · refine a_iconst C0 (-1) dX5_house_125 rfl ?_
                refine a_iret C0 hr dX5_house_126 ?_
                have hc : ¬ houC v k y := by
                  rintro ⟨-, q | q | q⟩
                  · first
                      | exact h18 q.1
                      | exact h25 q.2
                  · first
                      | exact h43 q.1
                      | exact h53 q.2
                  · first
                      | exact h71 q.1
                      | exact h80 q.2
                exact rd_ (if_neg hc).symm (by rw [if_neg hc])
              · refine a_aload_n C0 1 dX5_house_83 rfl rfl ?_
                refine g_X5_10 C0 (lt_b rfl) rfl rfl dX5_house_84 ?_
                refine a_iload_n C0 4 dX5_house_87 rfl rfl ?_
                refine a_iconst C0 1 dX5_house_88 rfl ?_
                refine a_icmp_ne C0 106 dX5_house_89 rfl (fun h89 => ?_) (fun h89 => ?_)
                · refine a_aload_n C0 1 dX5_house_106 rfl rfl ?_
                  refine g_X5_10 C0 (lt_b rfl) rfl rfl dX5_house_107 ?_
                  refine g_X5_144 C0 (lt_b rfl) rfl rfl dX5_house_110 ?_
                  refine a_iconst C0 1 dX5_house_113 rfl ?_
                  refine a_iload_n C0 2 dX5_house_114 rfl rfl ?_
                  refine a_ishl C0 dX5_house_115 ?_
                  refine a_iconst C0 (-1) dX5_house_116 rfl ?_
                  refine a_ixor C0 dX5_house_117 ?_
                  refine a_iand C0 dX5_house_118 ?_
                  refine p_X5_144 C0 (lt_b rfl) rfl (lt_b rfl) rfl rfl dX5_house_119 ?_
                  have hc : houC v k y := ⟨h4, Or.inr (Or.inr ⟨h71, h80⟩)⟩
                  first
                    | refine AW.cg (M := (mkX O (up2 N 0 7 (N 0 7 ||| 1 <<< (v &&& 31))) K T B R S H Z)) (fun c hc => mkX_Nu (q := 0) (by decide) c hc) ?_
                    | refine AW.cg (M := (mkX O (up2 N 0 7 (N 0 7 &&& (1 <<< (v &&& 31) ^^^ -1))) K T B R S H Z)) (fun c hc => mkX_Nu (q := 0) (by decide) c hc) ?_
                  refine a_iload C0 0 dX5_house_122 rfl ?_
                  refine a_iret C0 hr dX5_house_124 ?_
                  have k0 : ¬ k = 0 := by rw [h71]; decide
                  have k1 : ¬ k = 1 := by rw [h71]; decide
                  first
                    | exact rd_ (by rw [if_pos hc]) (by rw [if_pos hc]; unfold houN; rw [if_neg k0, if_neg k1, if_pos h89])
                    | exact rd_ (by rw [if_pos hc]) (by rw [if_pos hc]; unfold houN; rw [if_neg k0, if_neg k1, if_neg h89])
                · refine a_aload_n C0 1 dX5_house_92 rfl rfl ?_
                  refine g_X5_10 C0 (lt_b rfl) rfl rfl dX5_house_93 ?_
                  refine g_X5_144 C0 (lt_b rfl) rfl rfl dX5_house_96 ?_
                  refine a_iconst C0 1 dX5_house_99 rfl ?_
                  refine a_iload_n C0 2 dX5_house_100 rfl rfl ?_
                  refine a_ishl C0 dX5_house_101 ?_
                  refine a_ior C0 dX5_house_102 ?_
                  refine a_goto C0 119 dX5_house_103 rfl ?_
                  refine p_X5_144 C0 (lt_b rfl) rfl (lt_b rfl) rfl rfl dX5_house_119 ?_
                  have hc : houC v k y := ⟨h4, Or.inr (Or.inr ⟨h71, h80⟩)⟩
                  first
                    | refine AW.cg (M := (mkX O (up2 N 0 7 (N 0 7 ||| 1 <<< (v &&& 31))) K T B R S H Z)) (fun c hc => mkX_Nu (q := 0) (by decide) c hc) ?_
                    | refine AW.cg (M := (mkX O (up2 N 0 7 (N 0 7 &&& (1 <<< (v &&& 31) ^^^ -1))) K T B R S H Z)) (fun c hc => mkX_Nu (q := 0) (by decide) c hc) ?_
                  refine a_iload C0 0 dX5_house_122 rfl ?_
                  refine a_iret C0 hr dX5_house_124 ?_
                  have k0 : ¬ k = 0 := by rw [h71]; decide
                  have k1 : ¬ k = 1 := by rw [h71]; decide
                  first
                    | exact rd_ (by rw [if_pos hc]) (by rw [if_pos hc]; unfold houN; rw [if_neg k0, if_neg k1, if_pos h89])
                    | exact rd_ (by rw [if_pos hc]) (by rw [if_pos hc]; unfold houN; rw [if_neg k0, if_neg k1, if_neg h89])
          · refine a_aload_n C0 1 dX5_house_56 rfl rfl ?_
            refine g_X5_10 C0 (lt_b rfl) rfl rfl dX5_house_57 ?_
            refine g_X5_141 C0 (lt_b rfl) rfl rfl dX5_house_60 ?_
            refine a_iload_n C0 2 dX5_house_63 rfl rfl ?_
            refine a_iload_n C0 4 dX5_house_64 rfl rfl ?_
            refine a_iast C0 _ (lt_b rfl) (fun _ => rfl) hx.1 hx.2 dX5_house_65 ?_
            have hc : houC v k y := ⟨h4, Or.inr (Or.inl ⟨h43, h53⟩)⟩
            refine AW.cg (M := (mkX O (up2 N 3 (ix v) y) K T B R S H Z)) (fun c hc => mkX_Nu (q := 3) (by decide) c hc) ?_
            refine a_iload C0 0 dX5_house_66 rfl ?_
            refine a_iret C0 hr dX5_house_68 ?_
            have k0 : ¬ k = 0 := by rw [h43]; decide
            exact rd_ (by rw [if_pos hc]) (by rw [if_pos hc]; unfold houN; rw [if_neg k0, if_pos h43])
      · refine a_aload_n C0 1 dX5_house_28 rfl rfl ?_
        refine g_X5_10 C0 (lt_b rfl) rfl rfl dX5_house_29 ?_
        refine g_X5_138 C0 (lt_b rfl) rfl rfl dX5_house_32 ?_
        refine a_iload_n C0 2 dX5_house_35 rfl rfl ?_
        refine a_iload_n C0 4 dX5_house_36 rfl rfl ?_
        refine a_iast C0 _ (lt_b rfl) (fun _ => rfl) hx.1 hx.2 dX5_house_37 ?_
        have hc : houC v k y := ⟨h4, Or.inl ⟨h18, h25⟩⟩
        refine AW.cg (M := (mkX O (up2 N 2 (ix v) y) K T B R S H Z)) (fun c hc => mkX_Nu (q := 2) (by decide) c hc) ?_
        refine a_iload C0 0 dX5_house_38 rfl ?_
        refine a_iret C0 hr dX5_house_40 ?_
        exact rd_ (by rw [if_pos hc]) (by rw [if_pos hc]; unfold houN; rw [if_pos h18])
  · refine a_iconst C0 (-1) dX5_house_7 rfl ?_
    refine a_iret C0 hr dX5_house_8 ?_
    have hc : ¬ houC v k y := fun q => h4 q.1
    exact rd_ (if_neg hc).symm (by rw [if_neg hc])
set_option maxRecDepth 100000 in
set_option maxHeartbeats 4000000 in
theorem c_X5_seed (l : Launch) (G : GE) {ad : Nat → Nat} {M : WM} {O : Nat → Int32} {N K T B R S H Z : WM} {v : Int32} (hM : M = mkX O N K T B R S H Z)  : CT l G yX5_seed cX5_seed 3 (some .int) 0 [.ref (ad 0), .int v] 54 ad (shX G ad) M (PI (fun r u => r = N 0 10 ∧ u = (mkX O (up2 N 0 10 v) K T B R S H Z))) := by
  refine CT.of (own := RX5) rfl rfl (le_b rfl) fun p e s m args below meth c A C0 hr => ?_
  refine AW.lo (ls2 := [(0, _), (1, _)]) rfl ?_
  subst hM
  refine a_aload_n C0 0 dX5_seed_0 rfl rfl ?_
  refine g_X5_10 C0 (lt_b rfl) rfl rfl dX5_seed_1 ?_
  refine g_X5_70 C0 (lt_b rfl) rfl rfl dX5_seed_4 ?_
  refine a_istore_n (ls2 := [(2, _), (0, _), (1, _)]) C0 dX5_seed_7 rfl (lt_b rfl) rfl ?_
  refine a_aload_n C0 1 dX5_seed_8 rfl rfl ?_
  refine g_X5_10 C0 (lt_b rfl) rfl rfl dX5_seed_9 ?_
  refine a_iload_n C0 2 dX5_seed_12 rfl rfl ?_
  refine p_X5_70 C0 (lt_b rfl) rfl (lt_b rfl) rfl rfl dX5_seed_13 ?_
  refine AW.cg (M := (mkX O (up2 N 0 10 v) K T B R S H Z)) (fun c hc => mkX_Nu (q := 0) (by decide) c hc) ?_
  refine a_iload_n C0 0 dX5_seed_16 rfl rfl ?_
  refine a_iret C0 hr dX5_seed_17 ?_
  exact rd_ rfl rfl

def passesP : Nat → WM → Nat → WM
  | 0, P, _ => P
  | k + 1, P, n => passP (passesP k P n) n
theorem WFP.passes {P : WM} {n : Nat} (w : WFP P n) : ∀ k, WFP (passesP k P n) n
  | 0 => w
  | k + 1 => (WFP.passes w k).pass

set_option maxRecDepth 100000 in
set_option maxHeartbeats 4000000 in
theorem c_X5_minutes (l : Launch) (G : GE) {ad : Nat → Nat} {M : WM} {O : Nat → Int32} {N K T B R S H Z : WM} {v : Int32} {nT : Nat} (w : WFP N nT) (hM : M = mkX O N K T B R S H Z)  : CT l G yX5_minutes cX5_minutes 3 (some .int) 4 [.ref (ad 0), .int v] 54 ad (shX G ad) M (PI (fun r u => r = (if 1 ≤ v ∧ v ≤ 60 then sumP (passesP (ix v) N nT 5) nT else -1) ∧ u = (mkX O (if 1 ≤ v ∧ v ≤ 60 then passesP (ix v) N nT else N) K T B R S H Z))) := by
  refine CT.of (own := RX5) rfl rfl (le_b rfl) fun p e s m args below meth c A C0 hr => ?_
  refine AW.lo (ls2 := [(0, _), (1, _)]) rfl ?_
  subst hM
  have hw := fun k => w.passes (n := nT) k
  have lp : ∀ (n : Nat) (i : Nat) (xi : Int32) (N1 : WM), ix v - i < n → (i ≤ ix v) → (xi = nI i) → (0 < v ∧ (1 ≤ v ∧ v ≤ 60)) → (N1 = passesP i N nT) → AW p l e (rmk 4) s m args below meth c G A 54 ad (shX G ad) 3 0 0 (MQ below (CQ G 54 ad (shX G ad) A (PI (fun r u => r = (if 1 ≤ v ∧ v ≤ 60 then sumP (passesP (ix v) N nT 5) nT else -1) ∧ u = (mkX O (if 1 ≤ v ∧ v ≤ 60 then passesP (ix v) N nT else N) K T B R S H Z)))) args s 0 0 A) 14 [(0, .ref (ad 0)), (1, .int v), (2, .int xi)] [] (mkX O N1 K T B R S H Z) := by
    intro n
    induction n with
    | zero =>
      intro i xi N1 hn
      exact absurd hn (Nat.not_lt_zero _)
    | succ n ih =>
      intro i xi N1 hn hi hxi hc hm
      have w1 : WFP N1 nT := by
        rw [hm]
        exact w.passes i
      refine a_iload_n C0 2 dX5_minutes_14 rfl rfl ?_
      refine a_iload_n C0 1 dX5_minutes_15 rfl rfl ?_
      refine a_icmp_ge C0 32 dX5_minutes_16 rfl (fun h16 => ?_) (fun h16 => ?_)
      · refine a_aload_n C0 0 dX5_minutes_32 rfl rfl ?_
        refine g_X5_10 C0 (lt_b rfl) rfl rfl dX5_minutes_33 ?_
        refine a_callV _ 0 C0 em_XN (c_X1_heatTogether l G w1.1 w1.2.1 (ad := fun k => ad (1 + k))) u_c_X1_heatTogether u_m_X5_162 u_im_X1_heatTogether u_se_X1_heatTogether u_in_X1 hy_X1_heatTogether rfl (lt_b rfl) rfl (hRk rfl) rfl rfl (le_b rfl) dX5_minutes_36 (k_ro em_XN ?_)
        refine a_iret C0 hr dX5_minutes_39 ?_
        have e : i = ix v := Nat.le_antisymm hi (i_geY hxi (Nat.lt_of_le_of_lt hi (ix_lt _)) h16)
        subst e
        exact rd_ (by rw [if_pos hc.2, hm]) (by rw [if_pos hc.2, hm])
      · have hlt : i < ix v := i_ltY hxi (Nat.lt_of_le_of_lt hi (ix_lt _)) h16
        refine a_aload_n C0 0 dX5_minutes_19 rfl rfl ?_
        refine g_X5_10 C0 (lt_b rfl) rfl rfl dX5_minutes_20 ?_
        refine a_callV _ 0 C0 em_XN (c_X1_passMinute l G w1 (ad := fun k => ad (1 + k))) u_c_X1_passMinute u_m_X5_159 u_im_X1_passMinute u_se_X1_passMinute u_in_X1 hy_X1_passMinute rfl (lt_b rfl) rfl (hRk rfl) rfl rfl (le_b rfl) dX5_minutes_23 (k_vo ?_)
        refine a_iinc (ls2 := [(2, _), (0, _), (1, _)]) C0 2 1 dX5_minutes_26 rfl rfl (lt_b rfl) rfl ?_
        refine a_goto C0 14 dX5_minutes_29 rfl ?_
        refine AW.sub (ls2 := [(0, _), (1, _), (2, _)]) [1, 2, 0] rfl ?_
        exact ih (i + 1) _ _ (by omega) hlt (by rw [hxi, nI_1]) hc (by rw [hm]; rfl)
  refine a_iload_n C0 1 dX5_minutes_0 rfl rfl ?_
  refine a_iconst C0 1 dX5_minutes_1 rfl ?_
  refine a_bipush C0 60 dX5_minutes_2 rfl ?_
  refine a_callS _ 3 C0 EM.z (c_X5_isWithin l G) u_c_X5_isWithin u_m_X5_55 u_st_X5_isWithin u_in_X5 hy_X5_isWithin.2 (hRk rfl) rfl rfl (le_b rfl) dX5_minutes_4 (k_ro EM.z ?_)
  refine a_if_neb C0 12 dX5_minutes_7 rfl (fun h7 => ?_) (fun h7 => ?_)
  · refine a_iconst C0 0 dX5_minutes_12 rfl ?_
    refine a_istore_n (ls2 := [(2, _), (0, _), (1, _)]) C0 dX5_minutes_13 rfl (lt_b rfl) rfl ?_
    refine AW.sub (ls2 := [(0, _), (1, _), (2, _)]) [1, 2, 0] rfl ?_
    exact lp (ix v + 1) 0 _ _ (by omega) (Nat.zero_le _) rfl ⟨Int32.lt_of_lt_of_le (by decide) h7.1, h7⟩ rfl
  · refine a_iconst C0 (-1) dX5_minutes_10 rfl ?_
    refine a_iret C0 hr dX5_minutes_11 ?_
    exact rd_ (if_neg h7).symm (by rw [if_neg h7])
set_option maxRecDepth 100000 in
set_option maxHeartbeats 4000000 in
theorem c_X5_minute (l : Launch) (G : GE) {ad : Nat → Nat} {M : WM} {O : Nat → Int32} {N K T B R S H Z : WM} {nT : Nat} (w : WFP N nT) (hM : M = mkX O N K T B R S H Z)  : CT l G yX5_minute cX5_minute 1 (some .int) 5 [.ref (ad 0)] 54 ad (shX G ad) M (PI (fun r u => r = sumP (drawsP N nT 5) nT ∧ u = (mkX O (drawsP N nT) K T B R S H Z))) := by
  refine CT.of (own := RX5) rfl rfl (le_b rfl) fun p e s m args below meth c A C0 hr => ?_
  refine AW.lo (ls2 := [(0, _)]) rfl ?_
  subst hM
  refine a_aload_n C0 0 dX5_minute_0 rfl rfl ?_
  refine g_X5_10 C0 (lt_b rfl) rfl rfl dX5_minute_1 ?_
  refine a_callV _ 0 C0 em_XN (c_X1_passMinuteByDraws l G w (ad := fun k => ad (1 + k))) u_c_X1_passMinuteByDraws u_m_X5_166 u_im_X1_passMinuteByDraws u_se_X1_passMinuteByDraws u_in_X1 hy_X1_passMinuteByDraws rfl (lt_b rfl) rfl (hRk rfl) rfl rfl (le_b rfl) dX5_minute_4 (k_vo ?_)
  refine a_aload_n C0 0 dX5_minute_7 rfl rfl ?_
  refine g_X5_10 C0 (lt_b rfl) rfl rfl dX5_minute_8 ?_
  refine a_callV _ 0 C0 em_XN (c_X1_heatTogether l G w.draws.1 w.draws.2.1 (ad := fun k => ad (1 + k))) u_c_X1_heatTogether u_m_X5_162 u_im_X1_heatTogether u_se_X1_heatTogether u_in_X1 hy_X1_heatTogether rfl (lt_b rfl) rfl (hRk rfl) rfl rfl (le_b rfl) dX5_minute_11 (k_ro em_XN ?_)
  refine a_iret C0 hr dX5_minute_14 ?_
  exact rd_ rfl rfl
def staS (N : WM) (nT : Nat) (k : Int32) : Int32 := if k = 0 then N 0 9 else if k = 1 then sumP (N 5) nT else if k = 2 then sumP (fun i => bcS (N 7 i)) nT else if k = 3 then orP (fun i => 1 <<< (N 6 i &&& 31)) nT else if k = 4 then N 0 7 else if k = 5 then orC (fun i => decide (N 5 i = 0)) bitI nT else -1
set_option maxRecDepth 100000 in
set_option maxHeartbeats 4000000 in
theorem c_X5_state (l : Launch) (G : GE) {ad : Nat → Nat} {M : WM} {O : Nat → Int32} {N K T B R S H Z : WM} {k : Int32} {nT : Nat} (w : WFP N nT) (hM : M = mkX O N K T B R S H Z)  : CT l G yX5_state cX5_state 2 (some .int) 2 [.ref (ad 0), .int k] 54 ad (shX G ad) M (PI (fun r u => r = staS N nT k ∧ u = M)) := by
  refine CT.of (own := RX5) rfl rfl (le_b rfl) fun p e s m args below meth c A C0 hr => ?_
  refine AW.lo (ls2 := [(0, _), (1, _)]) rfl ?_
  subst hM
  refine a_iload_n C0 1 dX5_state_0 rfl rfl ?_
  refine a_case 0 (fun h1 => ?_) (fun h1n_0 => ?_)
  · refine a_tsIn C0 40 dX5_state_1 (by decide) (by decide) rfl rfl ?_
    refine a_aload_n C0 0 dX5_state_40 rfl rfl ?_
    refine g_X5_10 C0 (lt_b rfl) rfl rfl dX5_state_41 ?_
    refine g_X5_169 C0 (lt_b rfl) rfl rfl dX5_state_44 ?_
    refine a_iret C0 hr dX5_state_47 ?_
    first
      | exact rt_ (by unfold staS; rw [if_neg h1n_0, if_neg h1n_1, if_neg h1n_2, if_neg h1n_3, if_neg h1n_4, if_neg h1n_5])
      | exact rt_ (by unfold staS; rw [if_neg h1n_0, if_neg h1n_1, if_neg h1n_2, if_neg h1n_3, if_neg h1n_4, if_pos h1]; try rfl)
      | exact rt_ (by unfold staS; rw [if_neg h1n_0, if_neg h1n_1, if_neg h1n_2, if_neg h1n_3, if_pos h1]; try rfl)
      | exact rt_ (by unfold staS; rw [if_neg h1n_0, if_neg h1n_1, if_neg h1n_2, if_pos h1]; try rfl)
      | exact rt_ (by unfold staS; rw [if_neg h1n_0, if_neg h1n_1, if_pos h1]; try rfl)
      | exact rt_ (by unfold staS; rw [if_neg h1n_0, if_pos h1]; try rfl)
      | exact rt_ (by unfold staS; rw [if_pos h1]; try rfl)
  refine a_case 1 (fun h1 => ?_) (fun h1n_1 => ?_)
  · refine a_tsIn C0 48 dX5_state_1 (by decide) (by decide) rfl rfl ?_
    refine a_aload_n C0 0 dX5_state_48 rfl rfl ?_
    refine g_X5_10 C0 (lt_b rfl) rfl rfl dX5_state_49 ?_
    refine a_callV _ 0 C0 em_XN (c_X1_heatTogether l G w.1 w.2.1 (ad := fun k => ad (1 + k))) u_c_X1_heatTogether u_m_X5_162 u_im_X1_heatTogether u_se_X1_heatTogether u_in_X1 hy_X1_heatTogether rfl (lt_b rfl) rfl (hRk rfl) rfl rfl (le_b rfl) dX5_state_52 (k_ro em_XN ?_)
    refine a_iret C0 hr dX5_state_55 ?_
    first
      | exact rt_ (by unfold staS; rw [if_neg h1n_0, if_neg h1n_1, if_neg h1n_2, if_neg h1n_3, if_neg h1n_4, if_neg h1n_5])
      | exact rt_ (by unfold staS; rw [if_neg h1n_0, if_neg h1n_1, if_neg h1n_2, if_neg h1n_3, if_neg h1n_4, if_pos h1]; try rfl)
      | exact rt_ (by unfold staS; rw [if_neg h1n_0, if_neg h1n_1, if_neg h1n_2, if_neg h1n_3, if_pos h1]; try rfl)
      | exact rt_ (by unfold staS; rw [if_neg h1n_0, if_neg h1n_1, if_neg h1n_2, if_pos h1]; try rfl)
      | exact rt_ (by unfold staS; rw [if_neg h1n_0, if_neg h1n_1, if_pos h1]; try rfl)
      | exact rt_ (by unfold staS; rw [if_neg h1n_0, if_pos h1]; try rfl)
      | exact rt_ (by unfold staS; rw [if_pos h1]; try rfl)
  refine a_case 2 (fun h1 => ?_) (fun h1n_2 => ?_)
  · refine a_tsIn C0 56 dX5_state_1 (by decide) (by decide) rfl rfl ?_
    refine a_aload_n C0 0 dX5_state_56 rfl rfl ?_
    refine g_X5_10 C0 (lt_b rfl) rfl rfl dX5_state_57 ?_
    refine a_callV _ 0 C0 em_XN (c_X1_hearings l G w.1 w.2.1 (ad := fun k => ad (1 + k))) u_c_X1_hearings u_m_X5_172 u_im_X1_hearings u_se_X1_hearings u_in_X1 hy_X1_hearings rfl (lt_b rfl) rfl (hRk rfl) rfl rfl (le_b rfl) dX5_state_60 (k_ro em_XN ?_)
    refine a_iret C0 hr dX5_state_63 ?_
    first
      | exact rt_ (by unfold staS; rw [if_neg h1n_0, if_neg h1n_1, if_neg h1n_2, if_neg h1n_3, if_neg h1n_4, if_neg h1n_5])
      | exact rt_ (by unfold staS; rw [if_neg h1n_0, if_neg h1n_1, if_neg h1n_2, if_neg h1n_3, if_neg h1n_4, if_pos h1]; try rfl)
      | exact rt_ (by unfold staS; rw [if_neg h1n_0, if_neg h1n_1, if_neg h1n_2, if_neg h1n_3, if_pos h1]; try rfl)
      | exact rt_ (by unfold staS; rw [if_neg h1n_0, if_neg h1n_1, if_neg h1n_2, if_pos h1]; try rfl)
      | exact rt_ (by unfold staS; rw [if_neg h1n_0, if_neg h1n_1, if_pos h1]; try rfl)
      | exact rt_ (by unfold staS; rw [if_neg h1n_0, if_pos h1]; try rfl)
      | exact rt_ (by unfold staS; rw [if_pos h1]; try rfl)
  refine a_case 3 (fun h1 => ?_) (fun h1n_3 => ?_)
  · refine a_tsIn C0 64 dX5_state_1 (by decide) (by decide) rfl rfl ?_
    refine a_aload_n C0 0 dX5_state_64 rfl rfl ?_
    refine g_X5_10 C0 (lt_b rfl) rfl rfl dX5_state_65 ?_
    refine a_callV _ 0 C0 em_XN (c_X1_housesWithTales l G w.1 w.2.1 (ad := fun k => ad (1 + k))) u_c_X1_housesWithTales u_m_X5_175 u_im_X1_housesWithTales u_se_X1_housesWithTales u_in_X1 hy_X1_housesWithTales rfl (lt_b rfl) rfl (hRk rfl) rfl rfl (le_b rfl) dX5_state_68 (k_ro em_XN ?_)
    refine a_iret C0 hr dX5_state_71 ?_
    first
      | exact rt_ (by unfold staS; rw [if_neg h1n_0, if_neg h1n_1, if_neg h1n_2, if_neg h1n_3, if_neg h1n_4, if_neg h1n_5])
      | exact rt_ (by unfold staS; rw [if_neg h1n_0, if_neg h1n_1, if_neg h1n_2, if_neg h1n_3, if_neg h1n_4, if_pos h1]; try rfl)
      | exact rt_ (by unfold staS; rw [if_neg h1n_0, if_neg h1n_1, if_neg h1n_2, if_neg h1n_3, if_pos h1]; try rfl)
      | exact rt_ (by unfold staS; rw [if_neg h1n_0, if_neg h1n_1, if_neg h1n_2, if_pos h1]; try rfl)
      | exact rt_ (by unfold staS; rw [if_neg h1n_0, if_neg h1n_1, if_pos h1]; try rfl)
      | exact rt_ (by unfold staS; rw [if_neg h1n_0, if_pos h1]; try rfl)
      | exact rt_ (by unfold staS; rw [if_pos h1]; try rfl)
  refine a_case 4 (fun h1 => ?_) (fun h1n_4 => ?_)
  · refine a_tsIn C0 72 dX5_state_1 (by decide) (by decide) rfl rfl ?_
    refine a_aload_n C0 0 dX5_state_72 rfl rfl ?_
    refine g_X5_10 C0 (lt_b rfl) rfl rfl dX5_state_73 ?_
    refine g_X5_144 C0 (lt_b rfl) rfl rfl dX5_state_76 ?_
    refine a_iret C0 hr dX5_state_79 ?_
    first
      | exact rt_ (by unfold staS; rw [if_neg h1n_0, if_neg h1n_1, if_neg h1n_2, if_neg h1n_3, if_neg h1n_4, if_neg h1n_5])
      | exact rt_ (by unfold staS; rw [if_neg h1n_0, if_neg h1n_1, if_neg h1n_2, if_neg h1n_3, if_neg h1n_4, if_pos h1]; try rfl)
      | exact rt_ (by unfold staS; rw [if_neg h1n_0, if_neg h1n_1, if_neg h1n_2, if_neg h1n_3, if_pos h1]; try rfl)
      | exact rt_ (by unfold staS; rw [if_neg h1n_0, if_neg h1n_1, if_neg h1n_2, if_pos h1]; try rfl)
      | exact rt_ (by unfold staS; rw [if_neg h1n_0, if_neg h1n_1, if_pos h1]; try rfl)
      | exact rt_ (by unfold staS; rw [if_neg h1n_0, if_pos h1]; try rfl)
      | exact rt_ (by unfold staS; rw [if_pos h1]; try rfl)
  refine a_case 5 (fun h1 => ?_) (fun h1n_5 => ?_)
  · refine a_tsIn C0 80 dX5_state_1 (by decide) (by decide) rfl rfl ?_
    refine a_aload_n C0 0 dX5_state_80 rfl rfl ?_
    refine g_X5_10 C0 (lt_b rfl) rfl rfl dX5_state_81 ?_
    refine a_callV _ 0 C0 em_XN (c_X1_coldTales l G w.1 w.2.1 (ad := fun k => ad (1 + k))) u_c_X1_coldTales u_m_X5_178 u_im_X1_coldTales u_se_X1_coldTales u_in_X1 hy_X1_coldTales rfl (lt_b rfl) rfl (hRk rfl) rfl rfl (le_b rfl) dX5_state_84 (k_ro em_XN ?_)
    refine a_iret C0 hr dX5_state_87 ?_
    first
      | exact rt_ (by unfold staS; rw [if_neg h1n_0, if_neg h1n_1, if_neg h1n_2, if_neg h1n_3, if_neg h1n_4, if_neg h1n_5])
      | exact rt_ (by unfold staS; rw [if_neg h1n_0, if_neg h1n_1, if_neg h1n_2, if_neg h1n_3, if_neg h1n_4, if_pos h1]; try rfl)
      | exact rt_ (by unfold staS; rw [if_neg h1n_0, if_neg h1n_1, if_neg h1n_2, if_neg h1n_3, if_pos h1]; try rfl)
      | exact rt_ (by unfold staS; rw [if_neg h1n_0, if_neg h1n_1, if_neg h1n_2, if_pos h1]; try rfl)
      | exact rt_ (by unfold staS; rw [if_neg h1n_0, if_neg h1n_1, if_pos h1]; try rfl)
      | exact rt_ (by unfold staS; rw [if_neg h1n_0, if_pos h1]; try rfl)
      | exact rt_ (by unfold staS; rw [if_pos h1]; try rfl)
  refine a_tsOut C0 88 dX5_state_1 (by have t0 := lv_neT (a := 0) h1n_0 rfl; have t1 := lv_neT (a := 1) h1n_1 rfl; have t2 := lv_neT (a := 2) h1n_2 rfl; have t3 := lv_neT (a := 3) h1n_3 rfl; have t4 := lv_neT (a := 4) h1n_4 rfl; have t5 := lv_neT (a := 5) h1n_5 rfl; omega) rfl ?_
  refine a_iconst C0 (-1) dX5_state_88 rfl ?_
  refine a_iret C0 hr dX5_state_89 ?_
  first
    | exact rt_ (by unfold staS; rw [if_neg h1n_0, if_neg h1n_1, if_neg h1n_2, if_neg h1n_3, if_neg h1n_4, if_neg h1n_5])
    | exact rt_ (by unfold staS; rw [if_neg h1n_0, if_neg h1n_1, if_neg h1n_2, if_neg h1n_3, if_neg h1n_4, if_pos h1]; try rfl)
    | exact rt_ (by unfold staS; rw [if_neg h1n_0, if_neg h1n_1, if_neg h1n_2, if_neg h1n_3, if_pos h1]; try rfl)
    | exact rt_ (by unfold staS; rw [if_neg h1n_0, if_neg h1n_1, if_neg h1n_2, if_pos h1]; try rfl)
    | exact rt_ (by unfold staS; rw [if_neg h1n_0, if_neg h1n_1, if_pos h1]; try rfl)
    | exact rt_ (by unfold staS; rw [if_neg h1n_0, if_pos h1]; try rfl)
    | exact rt_ (by unfold staS; rw [if_pos h1]; try rfl)
def manS (O : Nat → Int32) (N B Z : WM) (nT : Nat) (k : Int32) : Int32 := if k = 0 then N 0 8 else if k = 1 then N 0 8 - bcS (orC (fun i => decide (N 5 i = 0)) bitI nT) else if k = 2 then bcS (orP (fun i => 1 <<< (N 6 i &&& 31)) nT) else if k = 3 then bcS (N 0 7) else if k = 4 then O 6 else if k = 5 then B 0 1 else if k = 6 then Z 0 1 else -1
set_option maxRecDepth 100000 in
set_option maxHeartbeats 4000000 in
theorem c_X5_many (l : Launch) (G : GE) {ad : Nat → Nat} {M : WM} {O : Nat → Int32} {N K T B R S H Z : WM} {k : Int32} {nT : Nat} (w : WFP N nT) (hM : M = mkX O N K T B R S H Z)  : CT l G yX5_many cX5_many 2 (some .int) 1 [.ref (ad 0), .int k] 54 ad (shX G ad) M (PI (fun r u => r = manS O N B Z nT k ∧ u = M)) := by
  refine CT.of (own := RX5) rfl rfl (le_b rfl) fun p e s m args below meth c A C0 hr => ?_
  refine AW.lo (ls2 := [(0, _), (1, _)]) rfl ?_
  subst hM
  refine a_iload_n C0 1 dX5_many_0 rfl rfl ?_
  refine a_case 0 (fun h1 => ?_) (fun h1n_0 => ?_)
  · refine a_tsIn C0 44 dX5_many_1 (by decide) (by decide) rfl rfl ?_
    refine a_aload_n C0 0 dX5_many_44 rfl rfl ?_
    refine g_X5_10 C0 (lt_b rfl) rfl rfl dX5_many_45 ?_
    refine g_X5_84 C0 (lt_b rfl) rfl rfl dX5_many_48 ?_
    refine a_iret C0 hr dX5_many_51 ?_
    first
      | exact rt_ (by unfold manS; rw [if_neg h1n_0, if_neg h1n_1, if_neg h1n_2, if_neg h1n_3, if_neg h1n_4, if_neg h1n_5, if_neg h1n_6])
      | exact rt_ (by unfold manS; rw [if_neg h1n_0, if_neg h1n_1, if_neg h1n_2, if_neg h1n_3, if_neg h1n_4, if_neg h1n_5, if_pos h1]; try rfl)
      | exact rt_ (by unfold manS; rw [if_neg h1n_0, if_neg h1n_1, if_neg h1n_2, if_neg h1n_3, if_neg h1n_4, if_pos h1]; try rfl)
      | exact rt_ (by unfold manS; rw [if_neg h1n_0, if_neg h1n_1, if_neg h1n_2, if_neg h1n_3, if_pos h1]; try rfl)
      | exact rt_ (by unfold manS; rw [if_neg h1n_0, if_neg h1n_1, if_neg h1n_2, if_pos h1]; try rfl)
      | exact rt_ (by unfold manS; rw [if_neg h1n_0, if_neg h1n_1, if_pos h1]; try rfl)
      | exact rt_ (by unfold manS; rw [if_neg h1n_0, if_pos h1]; try rfl)
      | exact rt_ (by unfold manS; rw [if_pos h1]; try rfl)
  refine a_case 1 (fun h1 => ?_) (fun h1n_1 => ?_)
  · refine a_tsIn C0 52 dX5_many_1 (by decide) (by decide) rfl rfl ?_
    refine a_aload_n C0 0 dX5_many_52 rfl rfl ?_
    refine g_X5_10 C0 (lt_b rfl) rfl rfl dX5_many_53 ?_
    refine g_X5_84 C0 (lt_b rfl) rfl rfl dX5_many_56 ?_
    refine a_aload_n C0 0 dX5_many_59 rfl rfl ?_
    refine g_X5_10 C0 (lt_b rfl) rfl rfl dX5_many_60 ?_
    refine a_callV _ 0 C0 em_XN (c_X1_coldTales l G w.1 w.2.1 (ad := fun k => ad (1 + k))) u_c_X1_coldTales u_m_X5_178 u_im_X1_coldTales u_se_X1_coldTales u_in_X1 hy_X1_coldTales rfl (lt_b rfl) rfl (hRk rfl) rfl rfl (le_b rfl) dX5_many_63 (k_ro em_XN ?_)
    refine a_callS _ 1 C0 EM.z (c_J6_bitCount_0f7a4 l G) u_c_J6_bitCount_0f7a4 u_m_X5_200 u_st_J6_bitCount_0f7a4 u_in_J6 hy_J6_bitCount_0f7a4.2 (hRk rfl) rfl rfl (le_b rfl) dX5_many_66 (k_ro EM.z ?_)
    refine a_isub C0 dX5_many_69 ?_
    refine a_iret C0 hr dX5_many_70 ?_
    first
      | exact rt_ (by unfold manS; rw [if_neg h1n_0, if_neg h1n_1, if_neg h1n_2, if_neg h1n_3, if_neg h1n_4, if_neg h1n_5, if_neg h1n_6])
      | exact rt_ (by unfold manS; rw [if_neg h1n_0, if_neg h1n_1, if_neg h1n_2, if_neg h1n_3, if_neg h1n_4, if_neg h1n_5, if_pos h1]; try rfl)
      | exact rt_ (by unfold manS; rw [if_neg h1n_0, if_neg h1n_1, if_neg h1n_2, if_neg h1n_3, if_neg h1n_4, if_pos h1]; try rfl)
      | exact rt_ (by unfold manS; rw [if_neg h1n_0, if_neg h1n_1, if_neg h1n_2, if_neg h1n_3, if_pos h1]; try rfl)
      | exact rt_ (by unfold manS; rw [if_neg h1n_0, if_neg h1n_1, if_neg h1n_2, if_pos h1]; try rfl)
      | exact rt_ (by unfold manS; rw [if_neg h1n_0, if_neg h1n_1, if_pos h1]; try rfl)
      | exact rt_ (by unfold manS; rw [if_neg h1n_0, if_pos h1]; try rfl)
      | exact rt_ (by unfold manS; rw [if_pos h1]; try rfl)
  refine a_case 2 (fun h1 => ?_) (fun h1n_2 => ?_)
  · refine a_tsIn C0 71 dX5_many_1 (by decide) (by decide) rfl rfl ?_
    refine a_aload_n C0 0 dX5_many_71 rfl rfl ?_
    refine g_X5_10 C0 (lt_b rfl) rfl rfl dX5_many_72 ?_
    refine a_callV _ 0 C0 em_XN (c_X1_housesWithTales l G w.1 w.2.1 (ad := fun k => ad (1 + k))) u_c_X1_housesWithTales u_m_X5_175 u_im_X1_housesWithTales u_se_X1_housesWithTales u_in_X1 hy_X1_housesWithTales rfl (lt_b rfl) rfl (hRk rfl) rfl rfl (le_b rfl) dX5_many_75 (k_ro em_XN ?_)
    refine a_callS _ 1 C0 EM.z (c_J6_bitCount_0f7a4 l G) u_c_J6_bitCount_0f7a4 u_m_X5_200 u_st_J6_bitCount_0f7a4 u_in_J6 hy_J6_bitCount_0f7a4.2 (hRk rfl) rfl rfl (le_b rfl) dX5_many_78 (k_ro EM.z ?_)
    refine a_iret C0 hr dX5_many_81 ?_
    first
      | exact rt_ (by unfold manS; rw [if_neg h1n_0, if_neg h1n_1, if_neg h1n_2, if_neg h1n_3, if_neg h1n_4, if_neg h1n_5, if_neg h1n_6])
      | exact rt_ (by unfold manS; rw [if_neg h1n_0, if_neg h1n_1, if_neg h1n_2, if_neg h1n_3, if_neg h1n_4, if_neg h1n_5, if_pos h1]; try rfl)
      | exact rt_ (by unfold manS; rw [if_neg h1n_0, if_neg h1n_1, if_neg h1n_2, if_neg h1n_3, if_neg h1n_4, if_pos h1]; try rfl)
      | exact rt_ (by unfold manS; rw [if_neg h1n_0, if_neg h1n_1, if_neg h1n_2, if_neg h1n_3, if_pos h1]; try rfl)
      | exact rt_ (by unfold manS; rw [if_neg h1n_0, if_neg h1n_1, if_neg h1n_2, if_pos h1]; try rfl)
      | exact rt_ (by unfold manS; rw [if_neg h1n_0, if_neg h1n_1, if_pos h1]; try rfl)
      | exact rt_ (by unfold manS; rw [if_neg h1n_0, if_pos h1]; try rfl)
      | exact rt_ (by unfold manS; rw [if_pos h1]; try rfl)
  refine a_case 3 (fun h1 => ?_) (fun h1n_3 => ?_)
  · refine a_tsIn C0 82 dX5_many_1 (by decide) (by decide) rfl rfl ?_
    refine a_aload_n C0 0 dX5_many_82 rfl rfl ?_
    refine g_X5_10 C0 (lt_b rfl) rfl rfl dX5_many_83 ?_
    refine g_X5_144 C0 (lt_b rfl) rfl rfl dX5_many_86 ?_
    refine a_callS _ 1 C0 EM.z (c_J6_bitCount_0f7a4 l G) u_c_J6_bitCount_0f7a4 u_m_X5_200 u_st_J6_bitCount_0f7a4 u_in_J6 hy_J6_bitCount_0f7a4.2 (hRk rfl) rfl rfl (le_b rfl) dX5_many_89 (k_ro EM.z ?_)
    refine a_iret C0 hr dX5_many_92 ?_
    first
      | exact rt_ (by unfold manS; rw [if_neg h1n_0, if_neg h1n_1, if_neg h1n_2, if_neg h1n_3, if_neg h1n_4, if_neg h1n_5, if_neg h1n_6])
      | exact rt_ (by unfold manS; rw [if_neg h1n_0, if_neg h1n_1, if_neg h1n_2, if_neg h1n_3, if_neg h1n_4, if_neg h1n_5, if_pos h1]; try rfl)
      | exact rt_ (by unfold manS; rw [if_neg h1n_0, if_neg h1n_1, if_neg h1n_2, if_neg h1n_3, if_neg h1n_4, if_pos h1]; try rfl)
      | exact rt_ (by unfold manS; rw [if_neg h1n_0, if_neg h1n_1, if_neg h1n_2, if_neg h1n_3, if_pos h1]; try rfl)
      | exact rt_ (by unfold manS; rw [if_neg h1n_0, if_neg h1n_1, if_neg h1n_2, if_pos h1]; try rfl)
      | exact rt_ (by unfold manS; rw [if_neg h1n_0, if_neg h1n_1, if_pos h1]; try rfl)
      | exact rt_ (by unfold manS; rw [if_neg h1n_0, if_pos h1]; try rfl)
      | exact rt_ (by unfold manS; rw [if_pos h1]; try rfl)
  refine a_case 4 (fun h1 => ?_) (fun h1n_4 => ?_)
  · refine a_tsIn C0 93 dX5_many_1 (by decide) (by decide) rfl rfl ?_
    refine a_aload_n C0 0 dX5_many_93 rfl rfl ?_
    refine g_X5_81 C0 (lt_b rfl) rfl rfl dX5_many_94 ?_
    refine a_iret C0 hr dX5_many_97 ?_
    first
      | exact rt_ (by unfold manS; rw [if_neg h1n_0, if_neg h1n_1, if_neg h1n_2, if_neg h1n_3, if_neg h1n_4, if_neg h1n_5, if_neg h1n_6])
      | exact rt_ (by unfold manS; rw [if_neg h1n_0, if_neg h1n_1, if_neg h1n_2, if_neg h1n_3, if_neg h1n_4, if_neg h1n_5, if_pos h1]; try rfl)
      | exact rt_ (by unfold manS; rw [if_neg h1n_0, if_neg h1n_1, if_neg h1n_2, if_neg h1n_3, if_neg h1n_4, if_pos h1]; try rfl)
      | exact rt_ (by unfold manS; rw [if_neg h1n_0, if_neg h1n_1, if_neg h1n_2, if_neg h1n_3, if_pos h1]; try rfl)
      | exact rt_ (by unfold manS; rw [if_neg h1n_0, if_neg h1n_1, if_neg h1n_2, if_pos h1]; try rfl)
      | exact rt_ (by unfold manS; rw [if_neg h1n_0, if_neg h1n_1, if_pos h1]; try rfl)
      | exact rt_ (by unfold manS; rw [if_neg h1n_0, if_pos h1]; try rfl)
      | exact rt_ (by unfold manS; rw [if_pos h1]; try rfl)
  refine a_case 5 (fun h1 => ?_) (fun h1n_5 => ?_)
  · refine a_tsIn C0 98 dX5_many_1 (by decide) (by decide) rfl rfl ?_
    refine a_aload_n C0 0 dX5_many_98 rfl rfl ?_
    refine g_X5_25 C0 (lt_b rfl) rfl rfl dX5_many_99 ?_
    refine g_X5_59 C0 (lt_b rfl) rfl rfl dX5_many_102 ?_
    refine a_iret C0 hr dX5_many_105 ?_
    first
      | exact rt_ (by unfold manS; rw [if_neg h1n_0, if_neg h1n_1, if_neg h1n_2, if_neg h1n_3, if_neg h1n_4, if_neg h1n_5, if_neg h1n_6])
      | exact rt_ (by unfold manS; rw [if_neg h1n_0, if_neg h1n_1, if_neg h1n_2, if_neg h1n_3, if_neg h1n_4, if_neg h1n_5, if_pos h1]; try rfl)
      | exact rt_ (by unfold manS; rw [if_neg h1n_0, if_neg h1n_1, if_neg h1n_2, if_neg h1n_3, if_neg h1n_4, if_pos h1]; try rfl)
      | exact rt_ (by unfold manS; rw [if_neg h1n_0, if_neg h1n_1, if_neg h1n_2, if_neg h1n_3, if_pos h1]; try rfl)
      | exact rt_ (by unfold manS; rw [if_neg h1n_0, if_neg h1n_1, if_neg h1n_2, if_pos h1]; try rfl)
      | exact rt_ (by unfold manS; rw [if_neg h1n_0, if_neg h1n_1, if_pos h1]; try rfl)
      | exact rt_ (by unfold manS; rw [if_neg h1n_0, if_pos h1]; try rfl)
      | exact rt_ (by unfold manS; rw [if_pos h1]; try rfl)
  refine a_case 6 (fun h1 => ?_) (fun h1n_6 => ?_)
  · refine a_tsIn C0 106 dX5_many_1 (by decide) (by decide) rfl rfl ?_
    refine a_aload_n C0 0 dX5_many_106 rfl rfl ?_
    refine g_X5_51 C0 (lt_b rfl) rfl rfl dX5_many_107 ?_
    refine g_X5_296 C0 (lt_b rfl) rfl rfl dX5_many_110 ?_
    refine a_iret C0 hr dX5_many_113 ?_
    first
      | exact rt_ (by unfold manS; rw [if_neg h1n_0, if_neg h1n_1, if_neg h1n_2, if_neg h1n_3, if_neg h1n_4, if_neg h1n_5, if_neg h1n_6])
      | exact rt_ (by unfold manS; rw [if_neg h1n_0, if_neg h1n_1, if_neg h1n_2, if_neg h1n_3, if_neg h1n_4, if_neg h1n_5, if_pos h1]; try rfl)
      | exact rt_ (by unfold manS; rw [if_neg h1n_0, if_neg h1n_1, if_neg h1n_2, if_neg h1n_3, if_neg h1n_4, if_pos h1]; try rfl)
      | exact rt_ (by unfold manS; rw [if_neg h1n_0, if_neg h1n_1, if_neg h1n_2, if_neg h1n_3, if_pos h1]; try rfl)
      | exact rt_ (by unfold manS; rw [if_neg h1n_0, if_neg h1n_1, if_neg h1n_2, if_pos h1]; try rfl)
      | exact rt_ (by unfold manS; rw [if_neg h1n_0, if_neg h1n_1, if_pos h1]; try rfl)
      | exact rt_ (by unfold manS; rw [if_neg h1n_0, if_pos h1]; try rfl)
      | exact rt_ (by unfold manS; rw [if_pos h1]; try rfl)
  refine a_tsOut C0 114 dX5_many_1 (by have t0 := lv_neT (a := 0) h1n_0 rfl; have t1 := lv_neT (a := 1) h1n_1 rfl; have t2 := lv_neT (a := 2) h1n_2 rfl; have t3 := lv_neT (a := 3) h1n_3 rfl; have t4 := lv_neT (a := 4) h1n_4 rfl; have t5 := lv_neT (a := 5) h1n_5 rfl; have t6 := lv_neT (a := 6) h1n_6 rfl; omega) rfl ?_
  refine a_iconst C0 (-1) dX5_many_114 rfl ?_
  refine a_iret C0 hr dX5_many_115 ?_
  first
    | exact rt_ (by unfold manS; rw [if_neg h1n_0, if_neg h1n_1, if_neg h1n_2, if_neg h1n_3, if_neg h1n_4, if_neg h1n_5, if_neg h1n_6])
    | exact rt_ (by unfold manS; rw [if_neg h1n_0, if_neg h1n_1, if_neg h1n_2, if_neg h1n_3, if_neg h1n_4, if_neg h1n_5, if_pos h1]; try rfl)
    | exact rt_ (by unfold manS; rw [if_neg h1n_0, if_neg h1n_1, if_neg h1n_2, if_neg h1n_3, if_neg h1n_4, if_pos h1]; try rfl)
    | exact rt_ (by unfold manS; rw [if_neg h1n_0, if_neg h1n_1, if_neg h1n_2, if_neg h1n_3, if_pos h1]; try rfl)
    | exact rt_ (by unfold manS; rw [if_neg h1n_0, if_neg h1n_1, if_neg h1n_2, if_pos h1]; try rfl)
    | exact rt_ (by unfold manS; rw [if_neg h1n_0, if_neg h1n_1, if_pos h1]; try rfl)
    | exact rt_ (by unfold manS; rw [if_neg h1n_0, if_pos h1]; try rfl)
    | exact rt_ (by unfold manS; rw [if_pos h1]; try rfl)
set_option maxRecDepth 100000 in
set_option maxHeartbeats 4000000 in
theorem c_X5_trace (l : Launch) (G : GE) {ad : Nat → Nat} {M : WM} {O : Nat → Int32} {N K T B R S H Z : WM} {v : Int32} {n9 : Nat} (hc : Z 0 1 = nI n9) (hc30 : n9 ≤ 30) (hM : M = mkX O N K T B R S H Z)  : CT l G yX5_trace cX5_trace 2 (some .int) 1 [.ref (ad 0), .int v] 54 ad (shX G ad) M (PI (fun r u => r = (if 0 ≤ v ∧ v ≤ Z 0 1 - 1 then Z 1 (ix v) else -3) ∧ u = M)) := by
  refine CT.of (own := RX5) rfl rfl (le_b rfl) fun p e s m args below meth c A C0 hr => ?_
  refine AW.lo (ls2 := [(0, _), (1, _)]) rfl ?_
  subst hM
  refine a_iload_n C0 1 dX5_trace_0 rfl rfl ?_
  refine a_iconst C0 0 dX5_trace_1 rfl ?_
  refine a_aload_n C0 0 dX5_trace_2 rfl rfl ?_
  refine g_X5_51 C0 (lt_b rfl) rfl rfl dX5_trace_3 ?_
  refine g_X5_296 C0 (lt_b rfl) rfl rfl dX5_trace_6 ?_
  refine a_iconst C0 1 dX5_trace_9 rfl ?_
  refine a_isub C0 dX5_trace_10 ?_
  refine a_callS _ 3 C0 EM.z (c_X5_isWithin l G) u_c_X5_isWithin u_m_X5_55 u_st_X5_isWithin u_in_X5 hy_X5_isWithin.2 (hRk rfl) rfl rfl (le_b rfl) dX5_trace_11 (k_ro EM.z ?_)
  refine a_if_eqb C0 29 dX5_trace_14 rfl (fun h14 => ?_) (fun h14 => ?_)
  · refine a_bipush C0 (-3) dX5_trace_29 rfl ?_
    refine a_iret C0 hr dX5_trace_31 ?_
    first
      | exact rt_ (if_pos h14).symm
      | exact rt_ (if_neg h14).symm
  · refine a_aload_n C0 0 dX5_trace_17 rfl rfl ?_
    refine g_X5_51 C0 (lt_b rfl) rfl rfl dX5_trace_18 ?_
    refine g_X5_297 C0 (lt_b rfl) rfl rfl dX5_trace_21 ?_
    refine a_iload_n C0 1 dX5_trace_24 rfl rfl ?_
    refine a_iald C0 _ (lt_b rfl) rfl (vp_le ((rng_N hc (by omega)).mp h14) hc30) rfl dX5_trace_25 ?_
    refine a_goto C0 31 dX5_trace_26 rfl ?_
    refine a_iret C0 hr dX5_trace_31 ?_
    first
      | exact rt_ (if_pos h14).symm
      | exact rt_ (if_neg h14).symm
set_option maxRecDepth 100000 in
set_option maxHeartbeats 4000000 in
theorem c_X5_keep (l : Launch) (G : GE) {ad : Nat → Nat} {M : WM} {O : Nat → Int32} {N K T B R S H Z : WM} (hM : M = mkX O N K T B R S H Z)  : CT l G yX5_keep cX5_keep 1 (some .int) 2 [.ref (ad 0)] 54 ad (shX G ad) M (PI (fun r u => r = 1 ∧ u = (mkX (fun j => if j = 3 then 1 else O j) N N T B R S H Z))) := by
  refine CT.of (own := RX5) rfl rfl (le_b rfl) fun p e s m args below meth c A C0 hr => ?_
  refine AW.lo (ls2 := [(0, _)]) rfl ?_
  subst hM
  refine a_aload_n C0 0 dX5_keep_0 rfl rfl ?_
  refine g_X5_16 C0 (lt_b rfl) rfl rfl dX5_keep_1 ?_
  refine a_aload_n C0 0 dX5_keep_4 rfl rfl ?_
  refine g_X5_10 C0 (lt_b rfl) rfl rfl dX5_keep_5 ?_
  refine a_callV _ 1 C0 em_XKN (c_X1_copyFrom l G (ad := fun k => ad (io2 9 8 1 k))) u_c_X1_copyFrom u_m_X5_77 u_im_X1_copyFrom u_se_X1_copyFrom u_in_X1 hy_X1_copyFrom rfl (lt_b rfl) rfl (hRk rfl) rfl rfl (le_b rfl) dX5_keep_8 (k_vo ?_)
  refine AW.cg (M := (mkX O N N T B R S H Z)) mkX_KN ?_
  refine a_aload_n C0 0 dX5_keep_11 rfl rfl ?_
  refine a_iconst C0 1 dX5_keep_12 rfl ?_
  refine p_X5_303 C0 (lt_b rfl) rfl (lt_b rfl) rfl rfl rfl dX5_keep_13 ?_
  refine AW.cg (M := (mkX (fun j => if j = 3 then 1 else O j) N N T B R S H Z)) mkX_Ou ?_
  refine a_iconst C0 1 dX5_keep_16 rfl ?_
  refine a_iret C0 hr dX5_keep_17 ?_
  exact rd_ rfl rfl
set_option maxRecDepth 100000 in
set_option maxHeartbeats 4000000 in
theorem c_X5_again (l : Launch) (G : GE) {ad : Nat → Nat} {M : WM} {O : Nat → Int32} {N K T B R S H Z : WM} (hM : M = mkX O N K T B R S H Z)  : CT l G yX5_again cX5_again 1 (some .int) 2 [.ref (ad 0)] 54 ad (shX G ad) M (PI (fun r u => r = (if O 3 = 0 then -3 else K 0 8) ∧ u = (mkX O (if O 3 = 0 then N else K) K T B R S H Z))) := by
  refine CT.of (own := RX5) rfl rfl (le_b rfl) fun p e s m args below meth c A C0 hr => ?_
  refine AW.lo (ls2 := [(0, _)]) rfl ?_
  subst hM
  refine a_aload_n C0 0 dX5_again_0 rfl rfl ?_
  refine g_X5_303 C0 (lt_b rfl) rfl rfl dX5_again_1 ?_
  refine a_if_ne C0 10 dX5_again_4 rfl (fun h4 => ?_) (fun h4 => ?_)
  · refine a_aload_n C0 0 dX5_again_10 rfl rfl ?_
    refine g_X5_10 C0 (lt_b rfl) rfl rfl dX5_again_11 ?_
    refine a_aload_n C0 0 dX5_again_14 rfl rfl ?_
    refine g_X5_16 C0 (lt_b rfl) rfl rfl dX5_again_15 ?_
    refine a_callV _ 1 C0 em_XNK (c_X1_copyFrom l G (ad := fun k => ad (io2 1 8 9 k))) u_c_X1_copyFrom u_m_X5_77 u_im_X1_copyFrom u_se_X1_copyFrom u_in_X1 hy_X1_copyFrom rfl (lt_b rfl) rfl (hRk rfl) rfl rfl (le_b rfl) dX5_again_18 (k_vo ?_)
    refine AW.cg (M := (mkX O K K T B R S H Z)) mkX_NK ?_
    refine a_aload_n C0 0 dX5_again_21 rfl rfl ?_
    refine g_X5_10 C0 (lt_b rfl) rfl rfl dX5_again_22 ?_
    refine g_X5_84 C0 (lt_b rfl) rfl rfl dX5_again_25 ?_
    refine a_iret C0 hr dX5_again_28 ?_
    have h4 : ¬ O 3 = 0 := h4
    exact rd_ (if_neg h4).symm (by rw [if_neg h4])
  · refine a_bipush C0 (-3) dX5_again_7 rfl ?_
    refine a_iret C0 hr dX5_again_9 ?_
    have h4 : O 3 = 0 := h4
    exact rd_ (if_pos h4).symm (by rw [if_pos h4])
