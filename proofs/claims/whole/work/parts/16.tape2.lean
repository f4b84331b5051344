
theorem adv_ext {G : GE} {ad : Nat → Nat} {M W : WM} {n e s k e2 : Nat} (hs : skB (M 1) n (n - e) e = s) (w1 : W 0 1 = M 0 1) (w2 : W 0 2 = nI k) (w3 : W 0 3 = nI s) (w4 : W 0 4 = nI e2) (wb : W 1 = M 1) (hk : tokK (M 1) n s = k) (he : tokE (M 1) n s = e2) : ∀ q, q < 2 → EqC (shB G ad q (W q)) (shB G ad q (advB M n e q)) := by
  intro q hq
  match q, hq with
  | 0, _ =>
    refine eqc_l ?_
    show (Sum.inr (4, [.ref (ad 1), .int (W 0 1), .int (W 0 2), .int (W 0 3), .int (W 0 4)]) : va_E) = .inr (4, [.ref (ad 1), .int (M 0 1), .int (nI (tokK (M 1) n (skB (M 1) n (n - e) e))), .int (nI (skB (M 1) n (n - e) e)), .int (nI (tokE (M 1) n (skB (M 1) n (n - e) e)))])
    rw [w1, w2, w3, w4, hs, hk, he]
  | 1, _ =>
    refine eqc_l ?_
    show (Sum.inl (G.2.1 1, 200, .inl (W 1)) : va_E) = .inl (G.2.1 1, 200, .inl (M 1))
    rw [wb]
theorem tok_0 {b : Nat → Int32} {n s : Nat} (h : n ≤ s) : tokK b n s = 0 ∧ tokE b n s = s := ⟨if_pos h, if_pos h⟩
theorem tok_1 {b : Nat → Int32} {n s : Nat} (h : s < n) (h1 : 97 ≤ b s ∧ b s ≤ 122) : tokK b n s = 1 ∧ tokE b n s = spB b n 97 122 (n - s) s := by
  unfold tokK tokE
  rw [if_neg (by omega), if_pos h1, if_neg (by omega), if_pos h1]
  exact ⟨rfl, rfl⟩
theorem tok_2 {b : Nat → Int32} {n s : Nat} (h : s < n) (h1 : ¬ (97 ≤ b s ∧ b s ≤ 122)) (h2 : 48 ≤ b s ∧ b s ≤ 57) : tokK b n s = 2 ∧ tokE b n s = spB b n 48 57 (n - s) s := by
  unfold tokK tokE
  rw [if_neg (by omega), if_neg h1, if_pos h2, if_neg (by omega), if_neg h1, if_pos h2]
  exact ⟨rfl, rfl⟩
theorem tok_3 {b : Nat → Int32} {n s : Nat} (h : s < n) (h1 : ¬ (97 ≤ b s ∧ b s ≤ 122)) (h2 : ¬ (48 ≤ b s ∧ b s ≤ 57)) : tokK b n s = 3 ∧ tokE b n s = s + 1 := by
  unfold tokK tokE
  rw [if_neg (by omega), if_neg h1, if_neg h2, if_neg (by omega), if_neg h1, if_neg h2]
  exact ⟨rfl, rfl⟩

set_option maxRecDepth 100000 in
set_option maxHeartbeats 4000000 in
theorem c_X4_advance (l : Launch) (G : GE) {ad : Nat → Nat} {M : WM} {n e1 : Nat} (h0 : TS M n e1) : CT l G yX4_advance cX4_advance 1 none 1 [.ref (ad 0)] 2 ad (shB G ad) M (PV (fun u => u = advB M n e1)) := by
  refine CT.of (own := RX4) rfl rfl (le_b rfl) fun p e s m args below meth c A C0 hr => ?_
  refine AW.lo (ls2 := [(0, _)]) rfl ?_
  have hN := h0.2.1
  have fin : ∀ (M1 : WM) (i : Nat), i ≤ n → (∀ j, j ≠ 3 → M1 0 j = M 0 j) → M1 1 = M 1 → M1 0 3 = nI i → skB (M 1) n (n - e1) e1 = i → AW p l e (rmk 1) s m args below meth c G A 2 ad (shB G ad) 1 0 0 (MQ below (CQ G 2 ad (shB G ad) A (PV (fun u => u = advB M n e1))) args s 0 0 A) 46 [(0, .ref (ad 0))] [] M1 := by
    intro M1 i hin g0 g1 g3 hs
    have e1c : M1 0 1 = nI n := (g0 1 (by decide)).trans h0.1
    refine a_aload_n C0 0 dX4_advance_46 rfl rfl ?_
    refine a_aload_n C0 0 dX4_advance_47 rfl rfl ?_
    refine g_X4_32 C0 (lt_b rfl) rfl rfl dX4_advance_48 ?_
    refine p_X4_22 C0 (lt_b rfl) rfl (lt_b rfl) rfl rfl dX4_advance_51 ?_
    refine a_aload_n C0 0 dX4_advance_54 rfl rfl ?_
    refine g_X4_32 C0 (lt_b rfl) rfl rfl dX4_advance_55 ?_
    refine a_aload_n C0 0 dX4_advance_58 rfl rfl ?_
    refine g_X4_19 C0 (lt_b rfl) rfl rfl dX4_advance_59 ?_
    refine a_icmp_lt C0 73 dX4_advance_62 rfl (fun h62 => ?_) (fun h62 => ?_)
    · have hlt : i < n := (nI_le200 g3 e1c (by omega) hN).2.mp h62
      have hx : IX (M1 0 3) i 200 := IX.eqn g3 (by omega) (by decide)
      refine a_aload_n C0 0 dX4_advance_73 rfl rfl ?_
      refine g_X4_9 C0 (lt_b rfl) rfl rfl dX4_advance_74 ?_
      refine a_aload_n C0 0 dX4_advance_77 rfl rfl ?_
      refine g_X4_32 C0 (lt_b rfl) rfl rfl dX4_advance_78 ?_
      refine a_bald C0 _ (lt_b rfl) rfl hx.1 hx.2 dX4_advance_81 ?_
      refine a_bipush C0 97 dX4_advance_82 rfl ?_
      refine a_bipush C0 122 dX4_advance_84 rfl ?_
      refine a_callSN _ 3 C0 EM.z (c_X5_isWithin l G) u_c_X5_isWithin C0.nw.2.2.2.2.1 u_st_X5_isWithin u_in_X5 hy_X5_isWithin.2 (hRk rfl) rfl rfl (le_b rfl) dX4_advance_86 (k_ro EM.z ?_)
      refine a_if_eqb C0 108 dX4_advance_89 rfl (fun h89 => ?_) (fun h89 => ?_)
      · refine a_aload_n C0 0 dX4_advance_108 rfl rfl ?_
        refine g_X4_9 C0 (lt_b rfl) rfl rfl dX4_advance_109 ?_
        refine a_aload_n C0 0 dX4_advance_112 rfl rfl ?_
        refine g_X4_32 C0 (lt_b rfl) rfl rfl dX4_advance_113 ?_
        refine a_bald C0 _ (lt_b rfl) rfl hx.1 hx.2 dX4_advance_116 ?_
        refine a_bipush C0 48 dX4_advance_117 rfl ?_
        refine a_bipush C0 57 dX4_advance_119 rfl ?_
        refine a_callSN _ 3 C0 EM.z (c_X5_isWithin l G) u_c_X5_isWithin C0.nw.2.2.2.2.1 u_st_X5_isWithin u_in_X5 hy_X5_isWithin.2 (hRk rfl) rfl rfl (le_b rfl) dX4_advance_121 (k_ro EM.z ?_)
        refine a_if_eqb C0 143 dX4_advance_124 rfl (fun h124 => ?_) (fun h124 => ?_)
        · refine a_aload_n C0 0 dX4_advance_143 rfl rfl ?_
          refine a_iconst C0 3 dX4_advance_144 rfl ?_
          refine p_X4_15 C0 (lt_b rfl) rfl (lt_b rfl) rfl rfl dX4_advance_145 ?_
          refine a_aload_n C0 0 dX4_advance_148 rfl rfl ?_
          refine a_dup C0 dX4_advance_149 rfl ?_
          refine g_X4_22 C0 (lt_b rfl) rfl rfl dX4_advance_150 ?_
          refine a_iconst C0 1 dX4_advance_153 rfl ?_
          refine a_iadd C0 dX4_advance_154 ?_
          refine p_X4_22 C0 (lt_b rfl) rfl (lt_b rfl) rfl rfl dX4_advance_155 ?_
          first
            | (have hge : n ≤ i := Nat.not_lt.mp fun q => h62 ((nI_le200 g3 e1c (by omega) hN).2.mpr q)
               refine AW.ext (M2 := advB M n e1) (adv_ext hs (g0 1 (by decide)) (k := 0) rfl g3 (e2 := i) g3 g1 (tok_0 hge).1 (tok_0 hge).2) ?_)
            | (have t := tok_1 (b := M 1) hlt (by rw [← g1]; exact h89)
               refine AW.ext (M2 := advB M n e1) (adv_ext hs (g0 1 (by decide)) (k := 1) rfl g3 (e2 := spB (M1 1) n 97 122 (n - i) i) rfl g1 t.1 (by rw [g1]; exact t.2)) ?_)
            | (have t := tok_2 (b := M 1) hlt (by rw [← g1]; exact h89) (by rw [← g1]; exact h124)
               refine AW.ext (M2 := advB M n e1) (adv_ext hs (g0 1 (by decide)) (k := 2) rfl g3 (e2 := spB (M1 1) n 48 57 (n - i) i) rfl g1 t.1 (by rw [g1]; exact t.2)) ?_)
            | (have t := tok_3 (b := M 1) hlt (by rw [← g1]; exact h89) (by rw [← g1]; exact h124)
               refine AW.ext (M2 := advB M n e1) (adv_ext hs (g0 1 (by decide)) (k := 3) rfl g3 (e2 := i + 1) (show M1 0 3 + 1 = _ by rw [g3, nI_1]) g1 t.1 t.2) ?_)
          refine a_vret C0 hr dX4_advance_158 ?_
          exact rv_ rfl
        · refine a_aload_n C0 0 dX4_advance_127 rfl rfl ?_
          refine a_iconst C0 2 dX4_advance_128 rfl ?_
          refine p_X4_15 C0 (lt_b rfl) rfl (lt_b rfl) rfl rfl dX4_advance_129 ?_
          refine a_aload_n C0 0 dX4_advance_132 rfl rfl ?_
          refine a_bipush C0 48 dX4_advance_133 rfl ?_
          refine a_bipush C0 57 dX4_advance_135 rfl ?_
          refine a_callV _ 2 C0 EM.refl (c_X4_goBehind l G (n := n) (e1 := i) ⟨e1c, hN, g3, by omega⟩) u_c_X4_goBehind u_m_X4_133 u_im_X4_goBehind u_se_X4_goBehind u_in_X4 hy_X4_goBehind rfl (lt_b rfl) rfl (hRk rfl) rfl rfl (le_b rfl) dX4_advance_137 (k_vo ?_)
          refine a_goto C0 158 dX4_advance_140 rfl ?_
          first
            | (have hge : n ≤ i := Nat.not_lt.mp fun q => h62 ((nI_le200 g3 e1c (by omega) hN).2.mpr q)
               refine AW.ext (M2 := advB M n e1) (adv_ext hs (g0 1 (by decide)) (k := 0) rfl g3 (e2 := i) g3 g1 (tok_0 hge).1 (tok_0 hge).2) ?_)
            | (have t := tok_1 (b := M 1) hlt (by rw [← g1]; exact h89)
               refine AW.ext (M2 := advB M n e1) (adv_ext hs (g0 1 (by decide)) (k := 1) rfl g3 (e2 := spB (M1 1) n 97 122 (n - i) i) rfl g1 t.1 (by rw [g1]; exact t.2)) ?_)
            | (have t := tok_2 (b := M 1) hlt (by rw [← g1]; exact h89) (by rw [← g1]; exact h124)
               refine AW.ext (M2 := advB M n e1) (adv_ext hs (g0 1 (by decide)) (k := 2) rfl g3 (e2 := spB (M1 1) n 48 57 (n - i) i) rfl g1 t.1 (by rw [g1]; exact t.2)) ?_)
            | (have t := tok_3 (b := M 1) hlt (by rw [← g1]; exact h89) (by rw [← g1]; exact h124)
               refine AW.ext (M2 := advB M n e1) (adv_ext hs (g0 1 (by decide)) (k := 3) rfl g3 (e2 := i + 1) (show M1 0 3 + 1 = _ by rw [g3, nI_1]) g1 t.1 t.2) ?_)
          refine a_vret C0 hr dX4_advance_158 ?_
          exact rv_ rfl
      · refine a_aload_n C0 0 dX4_advance_92 rfl rfl ?_
        refine a_iconst C0 1 dX4_advance_93 rfl ?_
        refine p_X4_15 C0 (lt_b rfl) rfl (lt_b rfl) rfl rfl dX4_advance_94 ?_
        refine a_aload_n C0 0 dX4_advance_97 rfl rfl ?_
        refine a_bipush C0 97 dX4_advance_98 rfl ?_
        refine a_bipush C0 122 dX4_advance_100 rfl ?_
        refine a_callV _ 2 C0 EM.refl (c_X4_goBehind l G (n := n) (e1 := i) ⟨e1c, hN, g3, by omega⟩) u_c_X4_goBehind u_m_X4_133 u_im_X4_goBehind u_se_X4_goBehind u_in_X4 hy_X4_goBehind rfl (lt_b rfl) rfl (hRk rfl) rfl rfl (le_b rfl) dX4_advance_102 (k_vo ?_)
        refine a_goto C0 158 dX4_advance_105 rfl ?_
        first
          | (have hge : n ≤ i := Nat.not_lt.mp fun q => h62 ((nI_le200 g3 e1c (by omega) hN).2.mpr q)
             refine AW.ext (M2 := advB M n e1) (adv_ext hs (g0 1 (by decide)) (k := 0) rfl g3 (e2 := i) g3 g1 (tok_0 hge).1 (tok_0 hge).2) ?_)
          | (have t := tok_1 (b := M 1) hlt (by rw [← g1]; exact h89)
             refine AW.ext (M2 := advB M n e1) (adv_ext hs (g0 1 (by decide)) (k := 1) rfl g3 (e2 := spB (M1 1) n 97 122 (n - i) i) rfl g1 t.1 (by rw [g1]; exact t.2)) ?_)
          | (have t := tok_2 (b := M 1) hlt (by rw [← g1]; exact h89) (by rw [← g1]; exact h124)
             refine AW.ext (M2 := advB M n e1) (adv_ext hs (g0 1 (by decide)) (k := 2) rfl g3 (e2 := spB (M1 1) n 48 57 (n - i) i) rfl g1 t.1 (by rw [g1]; exact t.2)) ?_)
          | (have t := tok_3 (b := M 1) hlt (by rw [← g1]; exact h89) (by rw [← g1]; exact h124)
             refine AW.ext (M2 := advB M n e1) (adv_ext hs (g0 1 (by decide)) (k := 3) rfl g3 (e2 := i + 1) (show M1 0 3 + 1 = _ by rw [g3, nI_1]) g1 t.1 t.2) ?_)
        refine a_vret C0 hr dX4_advance_158 ?_
        exact rv_ rfl
    · refine a_aload_n C0 0 dX4_advance_65 rfl rfl ?_
      refine a_iconst C0 0 dX4_advance_66 rfl ?_
      refine p_X4_15 C0 (lt_b rfl) rfl (lt_b rfl) rfl rfl dX4_advance_67 ?_
      refine a_goto C0 158 dX4_advance_70 rfl ?_
      first
        | (have hge : n ≤ i := Nat.not_lt.mp fun q => h62 ((nI_le200 g3 e1c (by omega) hN).2.mpr q)
           refine AW.ext (M2 := advB M n e1) (adv_ext hs (g0 1 (by decide)) (k := 0) rfl g3 (e2 := i) g3 g1 (tok_0 hge).1 (tok_0 hge).2) ?_)
        | (have t := tok_1 (b := M 1) hlt (by rw [← g1]; exact h89)
           refine AW.ext (M2 := advB M n e1) (adv_ext hs (g0 1 (by decide)) (k := 1) rfl g3 (e2 := spB (M1 1) n 97 122 (n - i) i) rfl g1 t.1 (by rw [g1]; exact t.2)) ?_)
        | (have t := tok_2 (b := M 1) hlt (by rw [← g1]; exact h89) (by rw [← g1]; exact h124)
           refine AW.ext (M2 := advB M n e1) (adv_ext hs (g0 1 (by decide)) (k := 2) rfl g3 (e2 := spB (M1 1) n 48 57 (n - i) i) rfl g1 t.1 (by rw [g1]; exact t.2)) ?_)
        | (have t := tok_3 (b := M 1) hlt (by rw [← g1]; exact h89) (by rw [← g1]; exact h124)
           refine AW.ext (M2 := advB M n e1) (adv_ext hs (g0 1 (by decide)) (k := 3) rfl g3 (e2 := i + 1) (show M1 0 3 + 1 = _ by rw [g3, nI_1]) g1 t.1 t.2) ?_)
      refine a_vret C0 hr dX4_advance_158 ?_
      exact rv_ rfl
  have lp : ∀ (n2 : Nat) (i : Nat) (M1 : WM), n - i < n2 → (i ≤ n) → (∀ j, j ≠ 3 → M1 0 j = M 0 j) → (M1 1 = M 1) → (M1 0 3 = nI i) → (skB (M 1) n (n - i) i = skB (M 1) n (n - e1) e1) → AW p l e (rmk 1) s m args below meth c G A 2 ad (shB G ad) 1 0 0 (MQ below (CQ G 2 ad (shB G ad) A (PV (fun u => u = advB M n e1))) args s 0 0 A) 8 [(0, .ref (ad 0))] [] M1 := by
    intro n2
    induction n2 with
    | zero =>
      intro i M1 hn
      exact absurd hn (Nat.not_lt_zero _)
    | succ n2 ih =>
      intro i M1 hn hi1 g0 g1 g3 hm
      have e1c : M1 0 1 = nI n := (g0 1 (by decide)).trans h0.1
      refine a_aload_n C0 0 dX4_advance_8 rfl rfl ?_
      refine g_X4_32 C0 (lt_b rfl) rfl rfl dX4_advance_9 ?_
      refine a_aload_n C0 0 dX4_advance_12 rfl rfl ?_
      refine g_X4_19 C0 (lt_b rfl) rfl rfl dX4_advance_13 ?_
      refine a_icmp_ge C0 46 dX4_advance_16 rfl (fun h16 => ?_) (fun h16 => ?_)
      · refine fin M1 i hi1 g0 g1 g3 (hm.symm.trans ?_)
        first
          | (have hge : n ≤ i := (nI_le200 g3 e1c (by omega) hN).1.mp h16
             rw [show n - i = 0 by omega]
             rfl)
          | (have e9 : n - i = (n - (i + 1)) + 1 := by omega
             rw [e9]
             refine if_neg fun q => h30 ?_
             rw [g1]
             exact q.2)
      · have hlt : i < n := Nat.not_le.mp fun q => h16 ((nI_le200 g3 e1c (by omega) hN).1.mpr q)
        have hx : IX (M1 0 3) i 200 := IX.eqn g3 (by omega) (by decide)
        refine a_aload_n C0 0 dX4_advance_19 rfl rfl ?_
        refine g_X4_9 C0 (lt_b rfl) rfl rfl dX4_advance_20 ?_
        refine a_aload_n C0 0 dX4_advance_23 rfl rfl ?_
        refine g_X4_32 C0 (lt_b rfl) rfl rfl dX4_advance_24 ?_
        refine a_bald C0 _ (lt_b rfl) rfl hx.1 hx.2 dX4_advance_27 ?_
        refine a_bipush C0 32 dX4_advance_28 rfl ?_
        refine a_icmp_ne C0 46 dX4_advance_30 rfl (fun h30 => ?_) (fun h30 => ?_)
        · refine fin M1 i hi1 g0 g1 g3 (hm.symm.trans ?_)
          first
            | (have hge : n ≤ i := (nI_le200 g3 e1c (by omega) hN).1.mp h16
               rw [show n - i = 0 by omega]
               rfl)
            | (have e9 : n - i = (n - (i + 1)) + 1 := by omega
               rw [e9]
               refine if_neg fun q => h30 ?_
               rw [g1]
               exact q.2)
        · refine a_aload_n C0 0 dX4_advance_33 rfl rfl ?_
          refine a_dup C0 dX4_advance_34 rfl ?_
          refine g_X4_32 C0 (lt_b rfl) rfl rfl dX4_advance_35 ?_
          refine a_iconst C0 1 dX4_advance_38 rfl ?_
          refine a_iadd C0 dX4_advance_39 ?_
          refine p_X4_32 C0 (lt_b rfl) rfl (lt_b rfl) rfl rfl dX4_advance_40 ?_
          refine a_goto C0 8 dX4_advance_43 rfl ?_
          exact ih (i + 1) _ (by omega) hlt (fun j hj => by
              show (if j = 3 then M1 0 3 + 1 else M1 0 j) = _
              rw [if_neg hj]
              exact g0 j hj) g1 (by
              show M1 0 3 + 1 = _
              rw [g3, nI_1]) (by
              rw [← hm, show n - i = (n - (i + 1)) + 1 by omega]
              exact (if_pos ⟨hlt, by rw [← g1]; exact h30⟩).symm)
  refine a_aload_n C0 0 dX4_advance_0 rfl rfl ?_
  refine a_aload_n C0 0 dX4_advance_1 rfl rfl ?_
  refine g_X4_22 C0 (lt_b rfl) rfl rfl dX4_advance_2 ?_
  refine p_X4_32 C0 (lt_b rfl) rfl (lt_b rfl) rfl rfl dX4_advance_5 ?_
  exact lp (n + 1) e1 _ (by omega) h0.2.2.2 (fun j hj => if_neg hj) rfl h0.2.2.1 rfl

/-- the Tape stands at a token -/
def TK (D : WM) (n k s e : Nat) : Prop := D 0 1 = nI n ∧ n ≤ 200 ∧ D 0 2 = nI k ∧ k ≤ 3 ∧ D 0 3 = nI s ∧ D 0 4 = nI e ∧ s ≤ e ∧ e ≤ n ∧ (k = 3 → s < n)
theorem TK.ts {D : WM} {n k s e : Nat} (h : TK D n k s e) : TS D n e := ⟨h.1, h.2.1, h.2.2.2.2.2.1, h.2.2.2.2.2.2.2.1⟩
theorem TS.adv {D : WM} {n e : Nat} (h : TS D n e) : TK (advB D n e) n (tokK (D 1) n (skB (D 1) n (n - e) e)) (skB (D 1) n (n - e) e) (tokE (D 1) n (skB (D 1) n (n - e) e)) := by
  have hs := skB_le (D 1) n (n - e) e h.2.2.2
  refine ⟨h.1, h.2.1, rfl, ?_, rfl, rfl, ?_, ?_, ?_⟩
  · unfold tokK
    repeat' split
    all_goals omega
  · unfold tokE
    repeat' split
    · exact Nat.le_refl _
    · exact (spB_le _ n _ _ _ _ hs.2).1
    · exact (spB_le _ n _ _ _ _ hs.2).1
    · omega
  · unfold tokE
    repeat' split
    · exact hs.2
    · exact (spB_le _ n _ _ _ _ hs.2).2
    · exact (spB_le _ n _ _ _ _ hs.2).2
    · omega
  · unfold tokK
    repeat' split
    all_goals omega
def nmB (b : Nat → Int32) : Nat → Nat → Int32 → Int32
  | 0, _, a => a
  | f + 1, s, a => nmB b f (s + 1) (a * 10 + (b s - 48))
def isNm (b : Nat → Int32) (k s e w : Nat) : Prop := k = 1 ∧ e - s = lnS w ∧ ∀ j, j < lnS w → b (s + j) = chS w j
abbrev Tk : Type := Nat × Nat × Nat
def nmT (b : Nat → Int32) (t : Tk) (w : Nat) : Bool := decide (t.1 = 1 ∧ t.2.2 - t.2.1 = lnS w) && (List.range (lnS w)).all fun j => decide (b (t.2.1 + j) = chS w j)
theorem nmT_iff {b : Nat → Int32} {t : Tk} {w : Nat} : nmT b t w = true ↔ isNm b t.1 t.2.1 t.2.2 w := by
  unfold nmT isNm
  rw [Bool.and_eq_true, decide_eq_true_eq, List.all_eq_true]
  constructor
  · rintro ⟨⟨h1, h2⟩, h3⟩
    exact ⟨h1, h2, fun j hj => of_decide_eq_true (h3 j (List.mem_range.mpr hj))⟩
  · rintro ⟨h1, h2, h3⟩
    exact ⟨⟨h1, h2⟩, fun j hj => decide_eq_true (h3 j (List.mem_range.mp hj))⟩

set_option maxRecDepth 100000 in
set_option maxHeartbeats 4000000 in
theorem c_X4_numberHere (l : Launch) (G : GE) {ad : Nat → Nat} {M : WM} {n k1 s1 e1 : Nat} (h0 : TK M n k1 s1 e1) : CT l G yX4_numberHere cX4_numberHere 3 (some .int) 0 [.ref (ad 0)] 2 ad (shB G ad) M (PI (fun r u => r = nmB (M 1) (e1 - s1) s1 0 ∧ u = M)) := by
  refine CT.of (own := RX4) rfl rfl (le_b rfl) fun p e s m args below meth c A C0 hr => ?_
  refine AW.lo (ls2 := [(0, _)]) rfl ?_
  obtain ⟨t1, t2, t3, t4, t5, t6, t7, t8, t9⟩ := id h0
  have lp : ∀ (n2 : Nat) (i : Nat) (a xi : Int32), e1 - i < n2 → (i ≤ e1) → (xi = nI i) → (nmB (M 1) (e1 - i) i a = nmB (M 1) (e1 - s1) s1 0) → AW p l e (rmk 0) s m args below meth c G A 2 ad (shB G ad) 3 0 0 (MQ below (CQ G 2 ad (shB G ad) A (PI (fun r u => r = nmB (M 1) (e1 - s1) s1 0 ∧ u = M))) args s 0 0 A) 7 [(0, .ref (ad 0)), (1, .int a), (2, .int xi)] [] M := by
    intro n2
    induction n2 with
    | zero =>
      intro i a xi hn
      exact absurd hn (Nat.not_lt_zero _)
    | succ n2 ih =>
      intro i a xi hn hi hxi ha
      refine a_iload_n C0 2 dX4_numberHere_7 rfl rfl ?_
      refine a_aload_n C0 0 dX4_numberHere_8 rfl rfl ?_
      refine g_X4_22 C0 (lt_b rfl) rfl rfl dX4_numberHere_9 ?_
      refine a_icmp_ge C0 36 dX4_numberHere_12 rfl (fun h12 => ?_) (fun h12 => ?_)
      · refine a_iload_n C0 1 dX4_numberHere_36 rfl rfl ?_
        refine a_iret C0 hr dX4_numberHere_37 ?_
        have e : i = e1 := Nat.le_antisymm hi ((nI_le200 hxi t6 (by omega) (by omega)).1.mp h12)
        refine rt_ ?_
        rw [← ha, e, Nat.sub_self]
        rfl
      · have hlt : i < e1 := Nat.not_le.mp fun q => h12 ((nI_le200 hxi t6 (by omega) (by omega)).1.mpr q)
        have hx : IX xi i 200 := IX.eqn hxi (by omega) (by decide)
        refine a_iload_n C0 1 dX4_numberHere_15 rfl rfl ?_
        refine a_bipush C0 10 dX4_numberHere_16 rfl ?_
        refine a_imul C0 dX4_numberHere_18 ?_
        refine a_aload_n C0 0 dX4_numberHere_19 rfl rfl ?_
        refine g_X4_9 C0 (lt_b rfl) rfl rfl dX4_numberHere_20 ?_
        refine a_iload_n C0 2 dX4_numberHere_23 rfl rfl ?_
        refine a_bald C0 _ (lt_b rfl) rfl hx.1 hx.2 dX4_numberHere_24 ?_
        refine a_bipush C0 48 dX4_numberHere_25 rfl ?_
        refine a_isub C0 dX4_numberHere_27 ?_
        refine a_iadd C0 dX4_numberHere_28 ?_
        refine a_istore_n (ls2 := [(1, _), (0, _), (2, _)]) C0 dX4_numberHere_29 rfl (lt_b rfl) rfl ?_
        refine a_iinc (ls2 := [(2, _), (1, _), (0, _)]) C0 2 1 dX4_numberHere_30 rfl rfl (lt_b rfl) rfl ?_
        refine a_goto C0 7 dX4_numberHere_33 rfl ?_
        refine AW.sub (ls2 := [(0, _), (1, _), (2, _)]) [2, 1, 0] rfl ?_
        exact ih (i + 1) _ _ (by omega) hlt (by rw [hxi, nI_1]) (by rw [← ha, show e1 - i = (e1 - (i + 1)) + 1 by omega]; rfl)
  refine a_iconst C0 0 dX4_numberHere_0 rfl ?_
  refine a_istore_n (ls2 := [(1, _), (0, _)]) C0 dX4_numberHere_1 rfl (lt_b rfl) rfl ?_
  refine a_aload_n C0 1 dX4_numberHere_2 rfl rfl ?_
  refine g_X4_32 C0 (lt_b rfl) rfl rfl dX4_numberHere_3 ?_
  refine a_istore_n (ls2 := [(2, _), (1, _), (0, _)]) C0 dX4_numberHere_6 rfl (lt_b rfl) rfl ?_
  refine AW.sub (ls2 := [(0, _), (1, _), (2, _)]) [2, 1, 0] rfl ?_
  exact lp (e1 + 1) s1 _ _ (by omega) t7 t5 rfl
set_option maxRecDepth 100000 in
set_option maxHeartbeats 4000000 in
theorem c_X4_isNumberTo (l : Launch) (G : GE) {ad : Nat → Nat} {M : WM} {n k1 s1 e1 : Nat} {v : Int32} (h0 : TK M n k1 s1 e1) : CT l G yX4_isNumberTo cX4_isNumberTo 2 (some .boolean) 1 [.ref (ad 0), .int v] 2 ad (shB G ad) M (PI (fun r u => r = bI (k1 = 2 ∧ e1 - s1 ≤ 3 ∧ nmB (M 1) (e1 - s1) s1 0 ≤ v) ∧ u = M)) := by
  refine CT.of (own := RX4) rfl rfl (le_b rfl) fun p e s m args below meth c A C0 hr => ?_
  refine AW.lo (ls2 := [(0, _), (1, _)]) rfl ?_
  obtain ⟨t1, t2, t3, t4, t5, t6, t7, t8, t9⟩ := id h0
  have hk : M 0 2 = 2 ↔ k1 = 2 := by
    rw [t3]
    exact nI_eq (b := 2) (by omega) (by decide)
  have hl : (3 : Int32) < M 0 4 - M 0 3 ↔ ¬ e1 - s1 ≤ 3 := by
    rw [t6, t5, pk_sub t7]
    exact (nI_ltI (a := 3) (by decide) (by omega)).trans Nat.not_le.symm
  refine a_aload_n C0 0 dX4_isNumberTo_0 rfl rfl ?_
  refine g_X4_15 C0 (lt_b rfl) rfl rfl dX4_isNumberTo_1 ?_
  refine a_iconst C0 2 dX4_isNumberTo_4 rfl ?_
  refine a_icmp_ne C0 33 dX4_isNumberTo_5 rfl (fun h5 => ?_) (fun h5 => ?_)
  · refine a_iconst C0 0 dX4_isNumberTo_33 rfl ?_
    refine a_zret C0 hr rfl dX4_isNumberTo_34 ?_
    refine rt_ ?_
    first
      | exact (bI_t ⟨hk.mp h5, Classical.byContradiction fun q => h18 (hl.mpr q), Int32.not_lt.mp h26⟩).symm
      | exact (bI_f fun q => absurd q.2.2 (Int32.not_le.mpr h26)).symm
      | exact (bI_f fun q => hl.mp h18 q.2.1).symm
      | exact (bI_f fun q => h5 (hk.mpr q.1)).symm
  · refine a_aload_n C0 0 dX4_isNumberTo_8 rfl rfl ?_
    refine g_X4_22 C0 (lt_b rfl) rfl rfl dX4_isNumberTo_9 ?_
    refine a_aload_n C0 0 dX4_isNumberTo_12 rfl rfl ?_
    refine g_X4_32 C0 (lt_b rfl) rfl rfl dX4_isNumberTo_13 ?_
    refine a_isub C0 dX4_isNumberTo_16 ?_
    refine a_iconst C0 3 dX4_isNumberTo_17 rfl ?_
    refine a_icmp_gt C0 33 dX4_isNumberTo_18 rfl (fun h18 => ?_) (fun h18 => ?_)
    · refine a_iconst C0 0 dX4_isNumberTo_33 rfl ?_
      refine a_zret C0 hr rfl dX4_isNumberTo_34 ?_
      refine rt_ ?_
      first
        | exact (bI_t ⟨hk.mp h5, Classical.byContradiction fun q => h18 (hl.mpr q), Int32.not_lt.mp h26⟩).symm
        | exact (bI_f fun q => absurd q.2.2 (Int32.not_le.mpr h26)).symm
        | exact (bI_f fun q => hl.mp h18 q.2.1).symm
        | exact (bI_f fun q => h5 (hk.mpr q.1)).symm
    · refine a_aload_n C0 0 dX4_isNumberTo_21 rfl rfl ?_
      refine a_callV _ 0 C0 EM.refl (c_X4_numberHere l G h0) u_c_X4_numberHere u_m_X4_146 u_im_X4_numberHere u_se_X4_numberHere u_in_X4 hy_X4_numberHere rfl (lt_b rfl) rfl (hRk rfl) rfl rfl (le_b rfl) dX4_isNumberTo_22 (k_ro EM.refl ?_)
      refine a_iload_n C0 1 dX4_isNumberTo_25 rfl rfl ?_
      refine a_icmp_gt C0 33 dX4_isNumberTo_26 rfl (fun h26 => ?_) (fun h26 => ?_)
      · refine a_iconst C0 0 dX4_isNumberTo_33 rfl ?_
        refine a_zret C0 hr rfl dX4_isNumberTo_34 ?_
        refine rt_ ?_
        first
          | exact (bI_t ⟨hk.mp h5, Classical.byContradiction fun q => h18 (hl.mpr q), Int32.not_lt.mp h26⟩).symm
          | exact (bI_f fun q => absurd q.2.2 (Int32.not_le.mpr h26)).symm
          | exact (bI_f fun q => hl.mp h18 q.2.1).symm
          | exact (bI_f fun q => h5 (hk.mpr q.1)).symm
      · refine a_iconst C0 1 dX4_isNumberTo_29 rfl ?_
        refine a_goto C0 34 dX4_isNumberTo_30 rfl ?_
        refine a_zret C0 hr rfl dX4_isNumberTo_34 ?_
        refine rt_ ?_
        first
          | exact (bI_t ⟨hk.mp h5, Classical.byContradiction fun q => h18 (hl.mpr q), Int32.not_lt.mp h26⟩).symm
          | exact (bI_f fun q => absurd q.2.2 (Int32.not_le.mpr h26)).symm
          | exact (bI_f fun q => hl.mp h18 q.2.1).symm
          | exact (bI_f fun q => h5 (hk.mpr q.1)).symm
set_option maxRecDepth 100000 in
set_option maxHeartbeats 4000000 in
theorem c_X4_takeNumber (l : Launch) (G : GE) {ad : Nat → Nat} {M : WM} {n k1 s1 e1 : Nat} (h0 : TK M n k1 s1 e1) : CT l G yX4_takeNumber cX4_takeNumber 2 (some .int) 2 [.ref (ad 0)] 2 ad (shB G ad) M (PI (fun r u => r = nmB (M 1) (e1 - s1) s1 0 ∧ u = advB M n e1)) := by
  refine CT.of (own := RX4) rfl rfl (le_b rfl) fun p e s m args below meth c A C0 hr => ?_
  refine AW.lo (ls2 := [(0, _)]) rfl ?_
  refine a_aload_n C0 0 dX4_takeNumber_0 rfl rfl ?_
  refine a_callV _ 0 C0 EM.refl (c_X4_numberHere l G h0) u_c_X4_numberHere u_m_X4_146 u_im_X4_numberHere u_se_X4_numberHere u_in_X4 hy_X4_numberHere rfl (lt_b rfl) rfl (hRk rfl) rfl rfl (le_b rfl) dX4_takeNumber_1 (k_ro EM.refl ?_)
  refine a_istore_n (ls2 := [(1, _), (0, _)]) C0 dX4_takeNumber_4 rfl (lt_b rfl) rfl ?_
  refine a_aload_n C0 1 dX4_takeNumber_5 rfl rfl ?_
  refine a_callV _ 0 C0 EM.refl (c_X4_advance l G h0.ts) u_c_X4_advance u_m_X4_25 u_im_X4_advance u_se_X4_advance u_in_X4 hy_X4_advance rfl (lt_b rfl) rfl (hRk rfl) rfl rfl (le_b rfl) dX4_takeNumber_6 (k_vo ?_)
  refine a_iload_n C0 0 dX4_takeNumber_9 rfl rfl ?_
  refine a_iret C0 hr dX4_takeNumber_10 ?_
  exact rd_ rfl rfl
set_option maxRecDepth 100000 in
set_option maxHeartbeats 4000000 in
theorem c_X4_isName (l : Launch) (G : GE) {ad : Nat → Nat} {M : WM} {n k1 s1 e1 w : Nat} (hw : w < 16) (h0 : TK M n k1 s1 e1) : CT l G yX4_isName cX4_isName 3 (some .boolean) 4 [.ref (ad 0), .ref (G.2.2.1 w)] 2 ad (shB G ad) M (PI (fun r u => r = bI (nmT (M 1) (k1, s1, e1) w = true) ∧ u = M)) := by
  refine CT.of (own := RX4) rfl rfl (le_b rfl) fun p e s m args below meth c A C0 hr => ?_
  refine AW.lo (ls2 := [(0, _), (1, _)]) rfl ?_
  obtain ⟨t1, t2, t3, t4, t5, t6, t7, t8, t9⟩ := id h0
  have hl7 := lnS_le w hw
  have lp : ∀ (n2 : Nat) (i : Nat) (xi : Int32), lnS w - i < n2 → (i ≤ lnS w) → (xi = nI i) → (k1 = 1) → (e1 - s1 = lnS w) → (∀ j, j < i → M 1 (s1 + j) = chS w j) → AW p l e (rmk 4) s m args below meth c G A 2 ad (shB G ad) 3 0 0 (MQ below (CQ G 2 ad (shB G ad) A (PI (fun r u => r = bI (nmT (M 1) (k1, s1, e1) w = true) ∧ u = M))) args s 0 0 A) 28 [(0, .ref (ad 0)), (1, .ref (G.2.2.1 w)), (2, .int xi)] [] M := by
    intro n2
    induction n2 with
    | zero =>
      intro i xi hn
      exact absurd hn (Nat.not_lt_zero _)
    | succ n2 ih =>
      intro i xi hn hi hxi hk hl ha
      refine a_iload_n C0 2 dX4_isName_28 rfl rfl ?_
      refine a_aload_n C0 1 dX4_isName_29 rfl rfl ?_
      refine a_callVs _ 0 C0 w hw EM.z (c_J0_length_8abf5 l G hw) u_c_J0_length_8abf5 u_m_X4_137 u_im_J0_length_8abf5 u_se_J0_length_8abf5 u_in_J0 hy_J0_length_8abf5 (hRk rfl) rfl rfl (le_b rfl) dX4_isName_30 (k_ro EM.z ?_)
      refine a_icmp_ge C0 63 dX4_isName_33 rfl (fun h33 => ?_) (fun h33 => ?_)
      · refine a_iconst C0 1 dX4_isName_63 rfl ?_
        refine a_zret C0 hr rfl dX4_isName_64 ?_
        refine rt_ ?_
        first
          | (refine (bI_t (nmT_iff.mpr ⟨hk, hl, ?_⟩)).symm
             have e : i = lnS w := Nat.le_antisymm hi ((nI_le200 hxi rfl (by omega) (by omega)).1.mp h33)
             rw [← e]
             exact ha)
          | exact (bI_f fun q => h52 ((nmT_iff.mp q).2.2 i hlt)).symm
      · have hlt : i < lnS w := Nat.not_le.mp fun q => h33 ((nI_le200 hxi rfl (by omega) (by omega)).1.mpr q)
        have hx : IX (M 0 3 + xi) (s1 + i) 200 := by
          rw [t5, hxi, nI_add]
          exact IX.n (by omega) (by decide)
        refine a_aload_n C0 0 dX4_isName_36 rfl rfl ?_
        refine g_X4_9 C0 (lt_b rfl) rfl rfl dX4_isName_37 ?_
        refine a_aload_n C0 0 dX4_isName_40 rfl rfl ?_
        refine g_X4_32 C0 (lt_b rfl) rfl rfl dX4_isName_41 ?_
        refine a_iload_n C0 2 dX4_isName_44 rfl rfl ?_
        refine a_iadd C0 dX4_isName_45 ?_
        refine a_bald C0 _ (lt_b rfl) rfl hx.1 hx.2 dX4_isName_46 ?_
        refine a_aload_n C0 1 dX4_isName_47 rfl rfl ?_
        refine a_iload_n C0 2 dX4_isName_48 rfl rfl ?_
        refine a_callVs _ 1 C0 w hw EM.z (c_J0_charAt_5068e l G hw (IX.eqn hxi hlt (Nat.lt_of_le_of_lt hl7 (by decide)))) u_c_J0_charAt_5068e u_m_X4_142 u_im_J0_charAt_5068e u_se_J0_charAt_5068e u_in_J0 hy_J0_charAt_5068e (hRk rfl) rfl rfl (le_b rfl) dX4_isName_49 (k_ro EM.z ?_)
        refine a_icmp_eq C0 57 dX4_isName_52 rfl (fun h52 => ?_) (fun h52 => ?_)
        · refine a_iinc (ls2 := [(2, _), (0, _), (1, _)]) C0 2 1 dX4_isName_57 rfl rfl (lt_b rfl) rfl ?_
          refine a_goto C0 28 dX4_isName_60 rfl ?_
          refine AW.sub (ls2 := [(0, _), (1, _), (2, _)]) [1, 2, 0] rfl ?_
          exact ih (i + 1) _ (by omega) hlt (by rw [hxi, nI_1]) hk hl (fun j hj => by
            by_cases hji : j = i
            · rw [hji]
              exact h52
            · exact ha j (by omega))
        · refine a_iconst C0 0 dX4_isName_55 rfl ?_
          refine a_zret C0 hr rfl dX4_isName_56 ?_
          refine rt_ ?_
          first
            | (refine (bI_t (nmT_iff.mpr ⟨hk, hl, ?_⟩)).symm
               have e : i = lnS w := Nat.le_antisymm hi ((nI_le200 hxi rfl (by omega) (by omega)).1.mp h33)
               rw [← e]
               exact ha)
            | exact (bI_f fun q => h52 ((nmT_iff.mp q).2.2 i hlt)).symm
  refine a_aload_n C0 0 dX4_isName_0 rfl rfl ?_
  refine g_X4_15 C0 (lt_b rfl) rfl rfl dX4_isName_1 ?_
  refine a_iconst C0 1 dX4_isName_4 rfl ?_
  refine a_icmp_ne C0 24 dX4_isName_5 rfl (fun h5 => ?_) (fun h5 => ?_)
  · refine a_iconst C0 0 dX4_isName_24 rfl ?_
    refine a_zret C0 hr rfl dX4_isName_25 ?_
    refine rt_ ?_
    first
      | (refine (bI_f fun q => h5 ?_).symm
         have q1 : k1 = 1 := (nmT_iff.mp q).1
         rw [t3, q1]
         rfl)
      | (refine (bI_f fun q => h21 ?_).symm
         have q2 : e1 - s1 = lnS w := (nmT_iff.mp q).2.1
         rw [t6, t5, pk_sub t7, q2])
  · have hk : k1 = 1 := by
      rw [t3] at h5
      exact (nI_eq (b := 1) (by omega) (by decide)).mp h5
    refine a_aload_n C0 0 dX4_isName_8 rfl rfl ?_
    refine g_X4_22 C0 (lt_b rfl) rfl rfl dX4_isName_9 ?_
    refine a_aload_n C0 0 dX4_isName_12 rfl rfl ?_
    refine g_X4_32 C0 (lt_b rfl) rfl rfl dX4_isName_13 ?_
    refine a_isub C0 dX4_isName_16 ?_
    refine a_aload_n C0 1 dX4_isName_17 rfl rfl ?_
    refine a_callVs _ 0 C0 w hw EM.z (c_J0_length_8abf5 l G hw) u_c_J0_length_8abf5 u_m_X4_137 u_im_J0_length_8abf5 u_se_J0_length_8abf5 u_in_J0 hy_J0_length_8abf5 (hRk rfl) rfl rfl (le_b rfl) dX4_isName_18 (k_ro EM.z ?_)
    refine a_icmp_eq C0 26 dX4_isName_21 rfl (fun h21 => ?_) (fun h21 => ?_)
    · refine a_iconst C0 0 dX4_isName_26 rfl ?_
      refine a_istore_n (ls2 := [(2, _), (0, _), (1, _)]) C0 dX4_isName_27 rfl (lt_b rfl) rfl ?_
      refine AW.sub (ls2 := [(0, _), (1, _), (2, _)]) [1, 2, 0] rfl ?_
      exact lp (lnS w + 1) 0 _ (by omega) (Nat.zero_le _) rfl hk (by
        rw [t6, t5, pk_sub t7] at h21
        exact (nI_eq (by omega) (by omega)).mp h21) (fun _ h => absurd h (Nat.not_lt_zero _))
    · refine a_iconst C0 0 dX4_isName_24 rfl ?_
      refine a_zret C0 hr rfl dX4_isName_25 ?_
      refine rt_ ?_
      first
        | (refine (bI_f fun q => h5 ?_).symm
           have q1 : k1 = 1 := (nmT_iff.mp q).1
           rw [t3, q1]
           rfl)
        | (refine (bI_f fun q => h21 ?_).symm
           have q2 : e1 - s1 = lnS w := (nmT_iff.mp q).2.1
           rw [t6, t5, pk_sub t7, q2])
