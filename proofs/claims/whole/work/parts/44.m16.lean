set_option maxRecDepth 100000 in
set_option maxHeartbeats 4000000 in
theorem c_X6_trace (l : Launch) (G : GE) {ad : Nat → Nat} {M : WM} {O S : RW} {X : WM} {v : Int32} {Z : WM} {n9 : Nat} (e21 : O 21 = Z 0 1) (hc : Z 0 1 = nI n9) (hc30 : n9 ≤ 30) (hb : ∀ k, k < 30 → X 13 k = Z 1 k) (hM : M = mkM O S X)  : CT l G yX6_trace cX6_trace 2 (some .int) 1 [.ref (ad 0), .int v] 14 ad (shM G ad) M (PI (fun r u => r = (if 0 ≤ v ∧ v ≤ Z 0 1 - 1 then Z 1 (ix v) else -3) ∧ u = mkM O S X)) := by
  refine CT.of (own := RX6) rfl rfl (le_b rfl) fun p e s m args below meth c A C0 hr => ?_
  refine AW.lo (ls2 := [(0, _), (1, _)]) rfl ?_
  subst hM
  refine a_iload_n C0 1 dX6_trace_0 rfl rfl ?_
  refine a_i2l C0 dX6_trace_1 ?_
  refine a_lconst C0 0 dX6_trace_2 rfl ?_
  refine a_aload_n C0 0 dX6_trace_3 rfl rfl ?_
  refine g_X6_299 C0 (lt_b rfl) rfl rfl dX6_trace_4 ?_
  refine a_iconst C0 1 dX6_trace_7 rfl ?_
  refine a_isub C0 dX6_trace_8 ?_
  refine a_i2l C0 dX6_trace_9 ?_
  refine a_callS _ 3 C0 EM.z (c_X6_isIn l G (w2 := 0) rfl rfl rfl) u_c_X6_isIn u_m_X6_54 u_st_X6_isIn u_in_X6 hy_X6_isIn.2 (hRk rfl) rfl rfl (le_b rfl) dX6_trace_10 (k_ro EM.z ?_)
  refine a_if_eqb C0 25 dX6_trace_13 rfl (fun h13 => ?_) (fun h13 => ?_)
  · refine a_bipush C0 (-3) dX6_trace_25 rfl ?_
    refine a_iret C0 hr dX6_trace_27 ?_
    first
      | exact rt_ (by rw [if_pos h13]; exact hb _ (vp_lt hv))
      | (have h13 : ¬ (0 ≤ v ∧ v ≤ Z 0 1 - 1) := by
           rw [← e21]
           exact h13
         exact rt_ (if_neg h13).symm)
  · have h13 : 0 ≤ v ∧ v ≤ Z 0 1 - 1 := by
      rw [← e21]
      exact h13
    have hv := vp_le ((rng_N hc (by omega)).mp h13) hc30
    refine a_aload_n C0 0 dX6_trace_16 rfl rfl ?_
    refine g_X6_46 C0 (lt_b rfl) rfl rfl dX6_trace_17 ?_
    refine a_iload_n C0 1 dX6_trace_20 rfl rfl ?_
    refine a_iald C0 _ (lt_b rfl) rfl hv rfl dX6_trace_21 ?_
    refine a_goto C0 27 dX6_trace_22 rfl ?_
    refine a_iret C0 hr dX6_trace_27 ?_
    first
      | exact rt_ (by rw [if_pos h13]; exact hb _ (vp_lt hv))
      | (have h13 : ¬ (0 ≤ v ∧ v ≤ Z 0 1 - 1) := by
           rw [← e21]
           exact h13
         exact rt_ (if_neg h13).symm)
theorem mkM_X2 {O S : RW} {X : WM} {i : Nat} {v : Int32} : up2 (mkM O S X) 2 i v = mkM O S (up2 X 2 i v) := mkM_X (by decide)

set_option maxRecDepth 100000 in
set_option maxHeartbeats 4000000 in
theorem c_X6_keep (l : Launch) (G : GE) {ad : Nat → Nat} {M : WM} {O S : RW} {X : WM} (hM : M = mkM O S X)  : CT l G yX6_keep cX6_keep 2 (some .int) 0 [.ref (ad 0)] 14 ad (shM G ad) M (PI (fun r u => r = 1 ∧ ∃ X', u = mkM (upS O 4 1) S X' ∧ (∀ c, c ≠ 2 → X' c = X c) ∧ ∀ k, k < 63 → X' 2 k = S k)) := by
  refine CT.of (own := RX6) rfl rfl (le_b rfl) fun p e s m args below meth c A C0 hr => ?_
  refine AW.lo (ls2 := [(0, _)]) rfl ?_
  subst hM
  have lp : ∀ (n : Nat) (i : Nat) (xi : Int32) (X2 : WM), 63 - i < n → (i ≤ 63) → (xi = nI i) → (∀ c, c ≠ 2 → X2 c = X c) → (∀ k, k < i → X2 2 k = S k) → AW p l e (rmk 0) s m args below meth c G A 14 ad (shM G ad) 2 0 0 (MQ below (CQ G 14 ad (shM G ad) A (PI (fun r u => r = 1 ∧ ∃ X', u = mkM (upS O 4 1) S X' ∧ (∀ c, c ≠ 2 → X' c = X c) ∧ ∀ k, k < 63 → X' 2 k = S k))) args s 0 0 A) 2 [(0, .ref (ad 0)), (1, .int xi)] [] (mkM O S X2) := by
    intro n
    induction n with
    | zero =>
      intro i xi X2 hn
      exact absurd hn (Nat.not_lt_zero _)
    | succ n ih =>
      intro i xi X2 hn hi hxi g0 g1
      refine a_iload_n C0 1 dX6_keep_2 rfl rfl ?_
      refine a_bipush C0 63 dX6_keep_3 rfl ?_
      refine a_icmp_ge C0 26 dX6_keep_5 rfl (fun h5 => ?_) (fun h5 => ?_)
      · refine a_aload_n C0 0 dX6_keep_26 rfl rfl ?_
        refine a_iconst C0 1 dX6_keep_27 rfl ?_
        refine p_X6_344 C0 (lt_b rfl) rfl (lt_b rfl) rfl rfl rfl dX6_keep_28 ?_
        refine a_iconst C0 1 dX6_keep_31 rfl ?_
        refine a_iret C0 hr dX6_keep_32 ?_
        have e : i = 63 := Nat.le_antisymm hi (i_ge (T := 63) hxi rfl (by omega) (by omega) h5)
        subst e
        rw [mkM_O]
        exact ⟨_, rfl, rfl, _, rfl, g0, g1⟩
      · have hlt : i < 63 := i_lt (T := 63) hxi rfl (by omega) (by omega) h5
        have hx : IX xi i 63 := IX.eqn hxi hlt (by decide)
        refine a_aload_n C0 0 dX6_keep_8 rfl rfl ?_
        refine g_X6_13 C0 (lt_b rfl) rfl rfl dX6_keep_9 ?_
        refine a_iload_n C0 1 dX6_keep_12 rfl rfl ?_
        refine a_aload_n C0 0 dX6_keep_13 rfl rfl ?_
        refine g_X6_7 C0 (lt_b rfl) rfl rfl dX6_keep_14 ?_
        refine a_iload_n C0 1 dX6_keep_17 rfl rfl ?_
        refine a_iald C0 _ (lt_b rfl) rfl hx.1 hx.2 dX6_keep_18 ?_
        refine a_iast C0 _ (lt_b rfl) (fun _ => rfl) hx.1 hx.2 dX6_keep_19 ?_
        refine a_iinc (ls2 := [(1, _), (0, _)]) C0 1 1 dX6_keep_20 rfl rfl (lt_b rfl) rfl ?_
        refine a_goto C0 2 dX6_keep_23 rfl ?_
        refine AW.sub (ls2 := [(0, _), (1, _)]) [1, 0] rfl ?_
        rw [mkM_X2]
        exact ih (i + 1) _ _ (by omega) hlt (by rw [hxi, nI_1]) (fun c hc => by
          rw [← g0 c hc]
          funext k
          exact if_neg hc) (fun k hk => by
          show (if k = i then S i else X2 2 k) = S k
          by_cases h1 : k = i
          · rw [if_pos h1, h1]
          · rw [if_neg h1, g1 k (by omega)])
  refine a_iconst C0 0 dX6_keep_0 rfl ?_
  refine a_istore_n (ls2 := [(1, _), (0, _)]) C0 dX6_keep_1 rfl (lt_b rfl) rfl ?_
  refine AW.sub (ls2 := [(0, _), (1, _)]) [1, 0] rfl ?_
  exact lp 64 0 _ _ (by omega) (Nat.zero_le _) rfl (fun _ _ => rfl) (fun k hk => absurd hk (Nat.not_lt_zero k))
set_option maxRecDepth 100000 in
set_option maxHeartbeats 4000000 in
theorem c_X6_again (l : Launch) (G : GE) {ad : Nat → Nat} {M : WM} {O S : RW} {X : WM} (hM : M = mkM O S X)  : CT l G yX6_again cX6_again 2 (some .int) 0 [.ref (ad 0)] 14 ad (shM G ad) M (PI (fun r u => r = (if O 4 = 0 then -3 else X 2 0) ∧ ∃ S', u = mkM O S' X ∧ ∀ k, k < 63 → S' k = if O 4 = 0 then S k else X 2 k)) := by
  refine CT.of (own := RX6) rfl rfl (le_b rfl) fun p e s m args below meth c A C0 hr => ?_
  refine AW.lo (ls2 := [(0, _)]) rfl ?_
  subst hM
  have lp : ∀ (n : Nat) (i : Nat) (xi : Int32) (S2 : RW), 63 - i < n → (i ≤ 63) → (xi = nI i) → (¬ O 4 = 0) → (∀ k, k < i → S2 k = X 2 k) → AW p l e (rmk 0) s m args below meth c G A 14 ad (shM G ad) 2 0 0 (MQ below (CQ G 14 ad (shM G ad) A (PI (fun r u => r = (if O 4 = 0 then -3 else X 2 0) ∧ ∃ S', u = mkM O S' X ∧ ∀ k, k < 63 → S' k = if O 4 = 0 then S k else X 2 k))) args s 0 0 A) 12 [(0, .ref (ad 0)), (1, .int xi)] [] (mkM O S2 X) := by
    intro n
    induction n with
    | zero =>
      intro i xi S2 hn
      exact absurd hn (Nat.not_lt_zero _)
    | succ n ih =>
      intro i xi S2 hn hi hxi h4 g1
      refine a_iload_n C0 1 dX6_again_12 rfl rfl ?_
      refine a_bipush C0 63 dX6_again_13 rfl ?_
      refine a_icmp_ge C0 36 dX6_again_15 rfl (fun h15 => ?_) (fun h15 => ?_)
      · refine a_aload_n C0 0 dX6_again_36 rfl rfl ?_
        refine g_X6_7 C0 (lt_b rfl) rfl rfl dX6_again_37 ?_
        refine a_iconst C0 0 dX6_again_40 rfl ?_
        refine a_iald C0 0 (lt_b rfl) rfl (vq rfl) rfl dX6_again_41 ?_
        refine a_iret C0 hr dX6_again_42 ?_
        have e : i = 63 := Nat.le_antisymm hi (i_ge (T := 63) hxi rfl (by omega) (by omega) h15)
        subst e
        exact ⟨_, rfl, by rw [if_neg h4]; exact g1 0 (by decide), _, rfl, fun k hk => by rw [if_neg h4]; exact g1 k hk⟩
      · have hlt : i < 63 := i_lt (T := 63) hxi rfl (by omega) (by omega) h15
        have hx : IX xi i 63 := IX.eqn hxi hlt (by decide)
        refine a_aload_n C0 0 dX6_again_18 rfl rfl ?_
        refine g_X6_7 C0 (lt_b rfl) rfl rfl dX6_again_19 ?_
        refine a_iload_n C0 1 dX6_again_22 rfl rfl ?_
        refine a_aload_n C0 0 dX6_again_23 rfl rfl ?_
        refine g_X6_13 C0 (lt_b rfl) rfl rfl dX6_again_24 ?_
        refine a_iload_n C0 1 dX6_again_27 rfl rfl ?_
        refine a_iald C0 _ (lt_b rfl) rfl hx.1 hx.2 dX6_again_28 ?_
        refine a_iast C0 _ (lt_b rfl) (fun _ => rfl) hx.1 hx.2 dX6_again_29 ?_
        refine a_iinc (ls2 := [(1, _), (0, _)]) C0 1 1 dX6_again_30 rfl rfl (lt_b rfl) rfl ?_
        refine a_goto C0 12 dX6_again_33 rfl ?_
        refine AW.sub (ls2 := [(0, _), (1, _)]) [1, 0] rfl ?_
        rw [mkM_S]
        exact ih (i + 1) _ _ (by omega) hlt (by rw [hxi, nI_1]) h4 (fun k hk => by
          show (if k = i then X 2 i else S2 k) = X 2 k
          by_cases h1 : k = i
          · rw [if_pos h1, h1]
          · rw [if_neg h1, g1 k (by omega)])
  refine a_aload_n C0 0 dX6_again_0 rfl rfl ?_
  refine g_X6_344 C0 (lt_b rfl) rfl rfl dX6_again_1 ?_
  refine a_if_ne C0 10 dX6_again_4 rfl (fun h4 => ?_) (fun h4 => ?_)
  · refine a_iconst C0 0 dX6_again_10 rfl ?_
    refine a_istore_n (ls2 := [(1, _), (0, _)]) C0 dX6_again_11 rfl (lt_b rfl) rfl ?_
    refine AW.sub (ls2 := [(0, _), (1, _)]) [1, 0] rfl ?_
    exact lp 64 0 _ _ (by omega) (Nat.zero_le _) rfl h4 (fun k hk => absurd hk (Nat.not_lt_zero k))
  · refine a_bipush C0 (-3) dX6_again_7 rfl ?_
    refine a_iret C0 hr dX6_again_9 ?_
    have h4 : O 4 = 0 := h4
    exact ⟨_, rfl, (if_pos h4).symm, _, rfl, fun k _ => (if_pos h4).symm⟩
