
theorem ad64_t : ∀ a, a < 41 → ∀ b, b < 9 → (nI a).toInt64 + (nI b).toInt64 = (nI (a + b)).toInt64 := by decide +kernel
theorem mp_ {x k : Int32} {t j : Nat} (hx : IX (x + k) (t + j) 8) : IX (31 + 4 * (x + k) + 1) (31 + 4 * (t + j) + 1) 63 := pl_ (k := 1) (j := 1) hx ⟨vq rfl, rfl⟩
theorem np3_ {v i k : Int32} {j q : Nat} (hv : IX v j 4) (hk : IX (i + k) q 40) : IX (40 * v + i + k) (40 * j + q) 160 := by
  rw [Int32.add_assoc]
  exact np_ hv hk

set_option maxRecDepth 100000 in
set_option maxHeartbeats 4000000 in
theorem c_X6_minds (l : Launch) (G : GE) {ad : Nat → Nat} {M : WM} {O S : RW} {X : WM} {P : WM} {nT mm : Nat} (rp : RP P S nT mm) {v i x y : Int32} {W : WM} (rs : RSh W X) {cn : Nat} (hcn : ix v < 4 → W (2 * ix v) 1 = nI cn) (hcn40 : cn ≤ 40) (hM : M = mkM O S X)  : CT l G yX6_minds cX6_minds 6 (some .int) 2 [.ref (ad 0), .int v, .int i, .int x, .int y] 14 ad (shM G ad) M (PI (fun r u => r = mndR P W v i x y ∧ ∃ S', u = mkM O S' X ∧ RP (mndO P W v i x y) S' nT mm)) := by
  refine CT.of (own := RX6) rfl rfl (le_b rfl) fun p e s m args below meth c A C0 hr => ?_
  refine AW.lo (ls2 := [(0, _), (1, _), (2, _), (3, _), (4, _)]) rfl ?_
  subst hM
  have lp : ∀ (n : Nat) (k : Nat) (xk : Int32) (S1 : RW), ix y - k < n → (k ≤ ix y) → (xk = nI k) → ((isSh v ∧ isTl P x ∧ (0 ≤ y ∧ y ≤ 8) ∧ x + y ≤ P 0 8)) → (¬ W (2 * ix v) 0 = -1) → (W (2 * ix v) 0 = 0) → (((0 ≤ i ∧ i ≤ W (2 * ix v) 1) ∧ i + y ≤ W (2 * ix v) 1)) → (RP (mndN P (W (2 * ix v + 1)) (ix x) (ix i) k) S1 nT mm) → AW p l e (rmk 2) s m args below meth c G A 14 ad (shM G ad) 6 0 0 (MQ below (CQ G 14 ad (shM G ad) A (PI (fun r u => r = mndR P W v i x y ∧ ∃ S', u = mkM O S' X ∧ RP (mndO P W v i x y) S' nT mm))) args s 0 0 A) 98 [(0, .ref (ad 0)), (1, .int v), (2, .int i), (3, .int x), (4, .int y), (5, .int xk)] [] (mkM O S1 X) := by
    intro n
    induction n with
    | zero =>
      intro k xk S1 hn
      exact absurd hn (Nat.not_lt_zero _)
    | succ n ih =>
      intro k xk S1 hn hk hxk hc hmis hso hci rp1
      have hv := (isTl_in rp.w).mp hc.2.1
      have hx : IX x (ix x) 8 := (IX.v hv).le rp.t8
      have hv4 := sh_in hc.1
      have hj : ix v < 4 := vp_lt hv4
      have hrs := rs.cn hj (hcn hj) hcn40
      have t8 := rp.t8
      have hy9 := in_of (n := 8) (by decide) hc.2.2.1
      have hy8 : ix y ≤ 8 := by
        have := vp_lt hy9
        omega
      have ey : y = nI (ix y) := (IX.v hy9).eq (by decide)
      have ex : x = nI (ix x) := hx.eq (by decide)
      have hxy : ix x + ix y ≤ nT := by
        have q := hc.2.2.2
        rw [rp.n1, ey, ex, nI_add] at q
        exact leN q (by have := hx.lt; omega) (by omega)
      have hcn2 := hcn hj
      have eci : vp_in i (cn + 1) := by
        have q := hci.1
        rw [hcn2] at q
        exact in_of (by omega) q
      have ei : i = nI (ix i) := (IX.v eci).eq (by omega)
      have hicn : ix i ≤ cn := by have := vp_lt eci; omega
      have hiy : ix i + ix y ≤ cn := by
        have q := hci.2
        rw [hcn2, ey, ei, nI_add] at q
        exact leN q (by omega) (by omega)
      refine a_iload C0 5 dX6_minds_98 rfl ?_
      refine a_iload C0 4 dX6_minds_100 rfl ?_
      refine a_icmp_ge C0 144 dX6_minds_102 rfl (fun h102 => ?_) (fun h102 => ?_)
      · refine a_iload C0 4 dX6_minds_144 rfl ?_
        refine a_iret C0 hr dX6_minds_146 ?_
        have e : k = ix y := Nat.le_antisymm hk (i_geY hxk (by omega) h102)
        subst e
        exact ⟨_, rfl, by unfold mndR; rw [if_pos hc, if_neg hmis, if_pos hso, if_pos hci], _, rfl, by unfold mndO; rw [if_pos hc, if_neg hmis, if_pos hso, if_pos hci]; exact rp1⟩
      · have hlt : k < ix y := i_ltY hxk (by omega) h102
        have hxh := mp_ (x := x) (k := xk) (t := ix x) (j := k) (IX.eqn (by rw [hxk, ← nI_add, ← ex]) (by omega) (by decide))
        have hxi := np3_ (i := i) (k := xk) (IX.v hv4) (IX.eqn (i := ix i + k) (by rw [hxk, ← nI_add, ← ei]) (by omega) (by decide))
        refine a_aload_n C0 0 dX6_minds_105 rfl rfl ?_
        refine g_X6_7 C0 (lt_b rfl) rfl rfl dX6_minds_106 ?_
        refine a_bipush C0 31 dX6_minds_109 rfl ?_
        refine a_iconst C0 4 dX6_minds_111 rfl ?_
        refine a_iload_n C0 3 dX6_minds_112 rfl rfl ?_
        refine a_iload C0 5 dX6_minds_113 rfl ?_
        refine a_iadd C0 dX6_minds_115 ?_
        refine a_imul C0 dX6_minds_116 ?_
        refine a_iadd C0 dX6_minds_117 ?_
        refine a_iconst C0 1 dX6_minds_118 rfl ?_
        refine a_iadd C0 dX6_minds_119 ?_
        refine a_aload_n C0 0 dX6_minds_120 rfl rfl ?_
        refine g_X6_34 C0 (lt_b rfl) rfl rfl dX6_minds_121 ?_
        refine a_bipush C0 40 dX6_minds_124 rfl ?_
        refine a_iload_n C0 1 dX6_minds_126 rfl rfl ?_
        refine a_imul C0 dX6_minds_127 ?_
        refine a_iload_n C0 2 dX6_minds_128 rfl rfl ?_
        refine a_iadd C0 dX6_minds_129 ?_
        refine a_iload C0 5 dX6_minds_130 rfl ?_
        refine a_iadd C0 dX6_minds_132 ?_
        refine a_iald C0 _ (lt_b rfl) rfl hxi.1 hxi.2 dX6_minds_133 ?_
        refine a_callS _ 1 C0 EM.z (c_X6_within l G) u_c_X6_within u_m_X6_198 u_st_X6_within u_in_X6 hy_X6_within.2 (hRk rfl) rfl rfl (le_b rfl) dX6_minds_134 (k_ro EM.z ?_)
        refine a_iast C0 _ (lt_b rfl) (fun _ => rfl) hxh.1 hxh.2 dX6_minds_137 ?_
        refine a_iinc (ls2 := [(5, _), (0, _), (1, _), (2, _), (3, _), (4, _)]) C0 5 1 dX6_minds_138 rfl rfl (lt_b rfl) rfl ?_
        refine a_goto C0 98 dX6_minds_141 rfl ?_
        refine AW.sub (ls2 := [(0, _), (1, _), (2, _), (3, _), (4, _), (5, _)]) [1, 2, 3, 4, 5, 0] rfl ?_
        rw [mkM_S, show mkM O S1 X 9 (40 * ix v + (ix i + k)) = W (2 * ix v + 1) (ix i + k) from hrs.2 _ (by omega)]
        exact ih (k + 1) _ _ (by omega) hlt (by rw [hxk, nI_1]) hc hmis hso hci (rp1.heat (t := ix x + k) (by omega) (held_in _))
  refine a_iload_n C0 1 dX6_minds_0 rfl rfl ?_
  refine a_callS _ 1 C0 EM.z (c_X6_isSheet l G) u_c_X6_isSheet u_m_X6_258 u_st_X6_isSheet u_in_X6 hy_X6_isSheet.2 (hRk rfl) rfl rfl (le_b rfl) dX6_minds_1 (k_ro EM.z ?_)
  refine a_if_eqb C0 41 dX6_minds_4 rfl (fun h4 => ?_) (fun h4 => ?_)
  · refine a_iconst C0 (-1) dX6_minds_41 rfl ?_
    refine a_iret C0 hr dX6_minds_42 ?_
    have hc : ¬ (isSh v ∧ isTl P x ∧ (0 ≤ y ∧ y ≤ 8) ∧ x + y ≤ P 0 8) := fun q => by
      first
        | exact h4 q.1
        | exact h12 q.2.1
        | exact h25 q.2.2.1
        | (have z := q.2.2.2
           rw [rp.n1, ← rp.n2] at z
           exact h38 z)
    exact ⟨_, rfl, by unfold mndR; rw [if_neg hc], _, rfl, by unfold mndO; rw [if_neg hc]; exact rp⟩
  · refine a_aload_n C0 0 dX6_minds_7 rfl rfl ?_
    refine a_iload_n C0 3 dX6_minds_8 rfl rfl ?_
    refine a_callV _ 1 C0 EM.refl (c_X6_isOne l G rp  rfl) u_c_X6_isOne u_m_X6_173 u_im_X6_isOne u_se_X6_isOne u_in_X6 hy_X6_isOne rfl (lt_b rfl) rfl (hRk rfl) rfl rfl (le_b rfl) dX6_minds_9 (k_ro EM.refl ?_)
    refine a_if_eqb C0 41 dX6_minds_12 rfl (fun h12 => ?_) (fun h12 => ?_)
    · refine a_iconst C0 (-1) dX6_minds_41 rfl ?_
      refine a_iret C0 hr dX6_minds_42 ?_
      have hc : ¬ (isSh v ∧ isTl P x ∧ (0 ≤ y ∧ y ≤ 8) ∧ x + y ≤ P 0 8) := fun q => by
        first
          | exact h4 q.1
          | exact h12 q.2.1
          | exact h25 q.2.2.1
          | (have z := q.2.2.2
             rw [rp.n1, ← rp.n2] at z
             exact h38 z)
      exact ⟨_, rfl, by unfold mndR; rw [if_neg hc], _, rfl, by unfold mndO; rw [if_neg hc]; exact rp⟩
    · refine a_iload C0 4 dX6_minds_15 rfl ?_
      refine a_i2l C0 dX6_minds_17 ?_
      refine a_lconst C0 0 dX6_minds_18 rfl ?_
      refine a_ldc2 C0 dX6_minds_19 u_k_X6_52 ?_
      refine a_callS _ 3 C0 EM.z (c_X6_isIn l G (w2 := 0) (w3 := 8) rfl rfl rfl) u_c_X6_isIn u_m_X6_54 u_st_X6_isIn u_in_X6 hy_X6_isIn.2 (hRk rfl) rfl rfl (le_b rfl) dX6_minds_22 (k_ro EM.z ?_)
      refine a_if_eqb C0 41 dX6_minds_25 rfl (fun h25 => ?_) (fun h25 => ?_)
      · refine a_iconst C0 (-1) dX6_minds_41 rfl ?_
        refine a_iret C0 hr dX6_minds_42 ?_
        have hc : ¬ (isSh v ∧ isTl P x ∧ (0 ≤ y ∧ y ≤ 8) ∧ x + y ≤ P 0 8) := fun q => by
          first
            | exact h4 q.1
            | exact h12 q.2.1
            | exact h25 q.2.2.1
            | (have z := q.2.2.2
               rw [rp.n1, ← rp.n2] at z
               exact h38 z)
        exact ⟨_, rfl, by unfold mndR; rw [if_neg hc], _, rfl, by unfold mndO; rw [if_neg hc]; exact rp⟩
      · refine a_iload_n C0 3 dX6_minds_28 rfl rfl ?_
        refine a_iload C0 4 dX6_minds_29 rfl ?_
        refine a_iadd C0 dX6_minds_31 ?_
        refine a_aload_n C0 0 dX6_minds_32 rfl rfl ?_
        refine g_X6_7 C0 (lt_b rfl) rfl rfl dX6_minds_33 ?_
        refine a_iconst C0 0 dX6_minds_36 rfl ?_
        refine a_iald C0 0 (lt_b rfl) rfl (vq rfl) rfl dX6_minds_37 ?_
        refine a_icmp_le C0 43 dX6_minds_38 rfl (fun h38 => ?_) (fun h38 => ?_)
        · have hc : (isSh v ∧ isTl P x ∧ (0 ≤ y ∧ y ≤ 8) ∧ x + y ≤ P 0 8) := ⟨h4, h12, h25, by
            rw [rp.n1, ← rp.n2]
            exact h38⟩
          have hv4 := sh_in h4
          have hrs := rs.cn (vp_lt hv4) (hcn (vp_lt hv4)) hcn40
          have e8 : mkM O S X 8 (ix v) = W (2 * ix v) 1 := hrs.1.trans (hcn (vp_lt hv4)).symm
          refine a_aload_n C0 0 dX6_minds_43 rfl rfl ?_
          refine a_iload_n C0 1 dX6_minds_44 rfl rfl ?_
          refine a_iconst C0 0 dX6_minds_45 rfl ?_
          refine a_callV _ 2 C0 EM.refl (c_X6_lacks l G rs hv4 rfl) u_c_X6_lacks u_m_X6_281 u_im_X6_lacks u_se_X6_lacks u_in_X6 hy_X6_lacks rfl (lt_b rfl) rfl (hRk rfl) rfl rfl (le_b rfl) dX6_minds_46 (k_ro EM.refl ?_)
          refine a_if_eq C0 59 dX6_minds_49 rfl (fun h49 => ?_) (fun h49 => ?_)
          · have hmis : ¬ W (2 * ix v) 0 = -1 := fun q => by
              rw [if_pos q] at h49
              exact absurd h49 (by decide)
            have hso : W (2 * ix v) 0 = 0 := by
              by_cases q : W (2 * ix v) 0 = 0
              · exact q
              · rw [if_neg hmis, if_neg q] at h49
                exact absurd h49 (by decide)
            have e64 : ∀ (_ : 0 ≤ i ∧ i ≤ W (2 * ix v) 1), (i.toInt64 + y.toInt64 ≤ (W (2 * ix v) 1).toInt64 ↔ i + y ≤ W (2 * ix v) 1) := fun q => by
              rw [hcn (vp_lt hv4)] at q ⊢
              obtain ⟨a, ha, rfl⟩ := vp_in_of (in_of (by omega) q) (by omega)
              obtain ⟨b, hb, rfl⟩ := vp_in_of (in_of (n := 8) (by decide) h25) (by decide)
              rw [ad64_t a (by omega) b (by omega), i64_le, nI_add]
            refine a_iload_n C0 2 dX6_minds_59 rfl rfl ?_
            refine a_i2l C0 dX6_minds_60 ?_
            refine a_lconst C0 0 dX6_minds_61 rfl ?_
            refine a_aload_n C0 0 dX6_minds_62 rfl rfl ?_
            refine g_X6_31 C0 (lt_b rfl) rfl rfl dX6_minds_63 ?_
            refine a_iload_n C0 1 dX6_minds_66 rfl rfl ?_
            refine a_iald C0 _ (lt_b rfl) rfl hv4 rfl dX6_minds_67 ?_
            refine a_i2l C0 dX6_minds_68 ?_
            refine a_callS _ 3 C0 EM.z (c_X6_isIn l G (w2 := 0) rfl rfl rfl) u_c_X6_isIn u_m_X6_54 u_st_X6_isIn u_in_X6 hy_X6_isIn.2 (hRk rfl) rfl rfl (le_b rfl) dX6_minds_69 (k_ro EM.z ?_)
            refine a_if_eqb C0 92 dX6_minds_72 rfl (fun h72 => ?_) (fun h72 => ?_)
            · refine a_bipush C0 (-12) dX6_minds_92 rfl ?_
              refine a_iret C0 hr dX6_minds_94 ?_
              have hci : ¬ ((0 ≤ i ∧ i ≤ W (2 * ix v) 1) ∧ i + y ≤ W (2 * ix v) 1) := fun q => by
                first
                  | (rw [e8] at h72
                     exact h72 q.1)
                  | (refine h89 ((lg_cmp_le _ _).mpr ?_)
                     rw [e8]
                     exact (e64 q.1).mpr q.2)
              exact ⟨_, rfl, by unfold mndR; rw [if_pos hc, if_neg hmis, if_pos hso, if_neg hci], _, rfl, by unfold mndO; rw [if_pos hc, if_neg hmis, if_pos hso, if_neg hci]; exact rp⟩
            · rw [e8] at h72
              refine a_iload_n C0 2 dX6_minds_75 rfl rfl ?_
              refine a_i2l C0 dX6_minds_76 ?_
              refine a_iload C0 4 dX6_minds_77 rfl ?_
              refine a_i2l C0 dX6_minds_79 ?_
              refine a_ladd C0 dX6_minds_80 ?_
              refine a_aload_n C0 0 dX6_minds_81 rfl rfl ?_
              refine g_X6_31 C0 (lt_b rfl) rfl rfl dX6_minds_82 ?_
              refine a_iload_n C0 1 dX6_minds_85 rfl rfl ?_
              refine a_iald C0 _ (lt_b rfl) rfl hv4 rfl dX6_minds_86 ?_
              refine a_i2l C0 dX6_minds_87 ?_
              refine a_lcmp C0 dX6_minds_88 ?_
              refine a_if_le C0 95 dX6_minds_89 rfl (fun h89 => ?_) (fun h89 => ?_)
              · have hci : ((0 ≤ i ∧ i ≤ W (2 * ix v) 1) ∧ i + y ≤ W (2 * ix v) 1) := by
                  refine ⟨h72, (e64 h72).mp ?_⟩
                  have q := (lg_cmp_le _ _).mp h89
                  rw [e8] at q
                  exact q
                refine a_iconst C0 0 dX6_minds_95 rfl ?_
                refine a_istore (ls2 := [(5, _), (0, _), (1, _), (2, _), (3, _), (4, _)]) C0 dX6_minds_96 (lt_b rfl) rfl ?_
                refine AW.sub (ls2 := [(0, _), (1, _), (2, _), (3, _), (4, _), (5, _)]) [1, 2, 3, 4, 5, 0] rfl ?_
                exact lp (ix y + 1) 0 _ _ (by omega) (Nat.zero_le _) rfl hc hmis hso hci rp
              · refine a_bipush C0 (-12) dX6_minds_92 rfl ?_
                refine a_iret C0 hr dX6_minds_94 ?_
                have hci : ¬ ((0 ≤ i ∧ i ≤ W (2 * ix v) 1) ∧ i + y ≤ W (2 * ix v) 1) := fun q => by
                  first
                    | (rw [e8] at h72
                       exact h72 q.1)
                    | (refine h89 ((lg_cmp_le _ _).mpr ?_)
                       rw [e8]
                       exact (e64 q.1).mpr q.2)
                exact ⟨_, rfl, by unfold mndR; rw [if_pos hc, if_neg hmis, if_pos hso, if_neg hci], _, rfl, by unfold mndO; rw [if_pos hc, if_neg hmis, if_pos hso, if_neg hci]; exact rp⟩
          · refine a_aload_n C0 0 dX6_minds_52 rfl rfl ?_
            refine a_iload_n C0 1 dX6_minds_53 rfl rfl ?_
            refine a_iconst C0 0 dX6_minds_54 rfl ?_
            refine a_callV _ 2 C0 EM.refl (c_X6_lacks l G rs hv4 rfl) u_c_X6_lacks u_m_X6_281 u_im_X6_lacks u_se_X6_lacks u_in_X6 hy_X6_lacks rfl (lt_b rfl) rfl (hRk rfl) rfl rfl (le_b rfl) dX6_minds_55 (k_ro EM.refl ?_)
            refine a_iret C0 hr dX6_minds_58 ?_
            refine ⟨_, rfl, ?_, _, rfl, ?_⟩
            · unfold mndR
              rw [if_pos hc]
              by_cases q : W (2 * ix v) 0 = -1
              · rw [if_pos q, if_pos q]
              · rw [if_neg q, if_neg q]
                by_cases q2 : W (2 * ix v) 0 = 0
                · rw [if_neg q, if_pos q2] at h49
                  exact absurd rfl h49
                · rw [if_neg q2, if_neg q2]
            · unfold mndO
              rw [if_pos hc]
              by_cases q : W (2 * ix v) 0 = -1
              · rw [if_pos q]
                exact rp
              · rw [if_neg q]
                by_cases q2 : W (2 * ix v) 0 = 0
                · rw [if_neg q, if_pos q2] at h49
                  exact absurd rfl h49
                · rw [if_neg q2]
                  exact rp
        · refine a_iconst C0 (-1) dX6_minds_41 rfl ?_
          refine a_iret C0 hr dX6_minds_42 ?_
          have hc : ¬ (isSh v ∧ isTl P x ∧ (0 ≤ y ∧ y ≤ 8) ∧ x + y ≤ P 0 8) := fun q => by
            first
              | exact h4 q.1
              | exact h12 q.2.1
              | exact h25 q.2.2.1
              | (have z := q.2.2.2
                 rw [rp.n1, ← rp.n2] at z
                 exact h38 z)
          exact ⟨_, rfl, by unfold mndR; rw [if_neg hc], _, rfl, by unfold mndO; rw [if_neg hc]; exact rp⟩
