
theorem semiR_P (b : Nat → Int32) (n : Nat) (P : WM) (t : Tk) : (semiR b n P t).2.1 = P := by
  unfold semiR
  split <;> rfl
def TC (P : WM) : Prop := ∃ T, T ≤ 8 ∧ P 0 8 = nI T
theorem TC.add {P : WM} (h : TC P) (h8 : P 0 8 < 8) (k a c : Int32) : TC (addP P (ix (P 0 8)) k a c) := by
  obtain ⟨T, hT, e⟩ := h
  rw [e] at h8
  have := (nI_ltI (b := 8) (by omega) (by decide)).mp h8
  refine ⟨T + 1, by omega, ?_⟩
  show P 0 8 + 1 = _
  rw [e, nI_1]
theorem TC.tale {b : Nat → Int32} {n : Nat} {k : Int32} {P : WM} {t : Tk} (h : TC P) : TC (rdTale b n k P t).2.1 := by
  unfold rdTale
  split
  · next h8 =>
    repeat' split
    all_goals first
      | exact h
      | (rw [semiR_P]; exact h.add h8 _ _ _)
  · exact h
theorem TC.sent {b : Nat → Int32} {n : Nat} {P : WM} {t : Tk} (h : TC P) : TC (rdSent b n P t).2.1 := by
  unfold rdSent
  split
  · split
    · split
      · unfold rdHouse
        repeat' split
        all_goals first
          | exact h
          | (rw [semiR_P]; exact h)
      · split
        · unfold rdHouse
          repeat' split
          all_goals first
            | exact h
            | (rw [semiR_P]; exact h)
        · split
          · unfold rdBox
            split
            · rw [semiR_P]
              exact h
            · exact h
          · exact h
    · unfold rdLaw
      split
      · rw [semiR_P]
        exact h
      · exact h
  · exact h.tale
theorem lwT_in {b : Nat → Int32} {t : Tk} (h : ¬ lwT b t = -1) : vp_in (lwT b t) 4 := by
  unfold lwT at h ⊢
  split
  · exact vq rfl
  · next h0 =>
    rw [if_neg h0] at h
    split
    · exact vq rfl
    · next h1 =>
      rw [if_neg h1] at h
      split
      · exact vq rfl
      · next h2 =>
        rw [if_neg h2] at h
        split
        · exact vq rfl
        · next h3 =>
          rw [if_neg h3] at h
          exact absurd rfl h
theorem mkT_tp {P D : WM} {j : Nat} {v : Int32} : up2 (mkT P D) 8 j v = mkT P (up2 D 0 j v) := by
  funext a c
  unfold up2 mkT
  by_cases ha : a = 8
  · subst ha
    rfl
  · rw [if_neg ha]
    by_cases h8 : a < 8
    · rw [if_pos h8, if_pos h8]
    · rw [if_neg h8, if_neg h8]
      show _ = if a - 8 = 0 then _ else _
      rw [if_neg (by omega)]
def rdI (b : Nat → Int32) (n : Nat) : Nat → WM → Tk → Int32 × WM
  | 0, P, _ => (-1, P)
  | f + 1, P, t => if t.1 = 0 then (-1, P) else if (rdSent b n P t).1 = true then rdI b n f (rdSent b n P t).2.1 (rdSent b n P t).2.2 else (nI (rdSent b n P t).2.2.2.1, (rdSent b n P t).2.1)
/-- how readInto ends -/
def RI (b : Nat → Int32) (n : Nat) (P : WM) (t : Tk) (f : Nat) (r : Int32) (u : WM) : Prop := r = (rdI b n f P t).1 ∧ ∃ D', u = mkT (rdI b n f P t).2 D' ∧ D' 0 1 = nI n ∧ D' 1 = b
theorem ri_ {b : Nat → Int32} {n f : Nat} {P : WM} {t : Tk} {r : Int32} {u : WM} (h : RI b n P t f r u) : PI (RI b n P t f) (some (.int r)) u := ⟨r, rfl, h⟩

set_option maxRecDepth 100000 in
set_option maxHeartbeats 4000000 in
theorem c_X4_readSentence (l : Launch) (G : GE) {ad : Nat → Nat} {M : WM} {P D : WM} {b : Nat → Int32} {n : Nat} {t0 : Tk} {T : Nat} (hT : P 0 8 = nI T) (hT8 : T ≤ 8) (hM : M = mkT P D) (q0 : TKS D b n t0) : CT l G yX4_readSentence cX4_readSentence 4 (some .boolean) 7 [.ref (ad 8), .ref (ad 0)] 10 ad (shT G ad) M (PI (RE b n (rdSent b n P t0))) := by
  refine CT.of (own := RX4) rfl rfl (le_b rfl) fun p e s m args below meth c A C0 hr => ?_
  refine AW.lo (ls2 := [(0, _), (1, _)]) rfl ?_
  subst hM
  refine a_aload_n C0 0 dX4_readSentence_0 rfl rfl ?_
  refine a_callV _ 0 C0 em_TBc (c_X4_namedKind l G (t := t0) q0.1 (ad := fun k => ad (8 + k))) u_c_X4_namedKind u_m_X4_35 u_im_X4_namedKind u_se_X4_namedKind u_in_X4 hy_X4_namedKind rfl (lt_b rfl) rfl (hRk rfl) rfl rfl (le_b rfl) dX4_readSentence_1 (k_ro em_TBc ?_)
  rw [q0.2.1]
  refine a_istore_n (ls2 := [(2, _), (0, _), (1, _)]) C0 dX4_readSentence_4 rfl (lt_b rfl) rfl ?_
  refine a_iload_n C0 0 dX4_readSentence_5 rfl rfl ?_
  refine a_iconst C0 (-1) dX4_readSentence_6 rfl ?_
  refine a_icmp_eq C0 17 dX4_readSentence_7 rfl (fun h7 => ?_) (fun h7 => ?_)
  · refine a_aload_n C0 1 dX4_readSentence_17 rfl rfl ?_
    refine a_callV _ 0 C0 em_TBc (c_X4_namedLaw l G (t := t0) q0.1 (ad := fun k => ad (8 + k))) u_c_X4_namedLaw u_m_X4_43 u_im_X4_namedLaw u_se_X4_namedLaw u_in_X4 hy_X4_namedLaw rfl (lt_b rfl) rfl (hRk rfl) rfl rfl (le_b rfl) dX4_readSentence_18 (k_ro em_TBc ?_)
    rw [q0.2.1]
    refine a_istore_n (ls2 := [(3, _), (2, _), (0, _), (1, _)]) C0 dX4_readSentence_21 rfl (lt_b rfl) rfl ?_
    refine a_iload_n C0 0 dX4_readSentence_22 rfl rfl ?_
    refine a_iconst C0 (-1) dX4_readSentence_23 rfl ?_
    refine a_icmp_eq C0 34 dX4_readSentence_24 rfl (fun h24 => ?_) (fun h24 => ?_)
    · refine a_aload_n C0 2 dX4_readSentence_34 rfl rfl ?_
      refine a_ldcS C0 10 (lt_b rfl) dX4_readSentence_35 ?_
      refine a_callV _ 1 C0 em_TBc (c_X4_isName l G (w := 10) (by decide) q0.1 (ad := fun k => ad (8 + k))) u_c_X4_isName u_m_X4_51 u_im_X4_isName u_se_X4_isName u_in_X4 hy_X4_isName rfl (lt_b rfl) rfl (hRk rfl) rfl rfl (le_b rfl) dX4_readSentence_37 (k_ro em_TBc ?_)
      rw [q0.2.1]
      refine a_if_eqb C0 54 dX4_readSentence_40 rfl (fun h40 => ?_) (fun h40 => ?_)
      · refine a_aload_n C0 2 dX4_readSentence_54 rfl rfl ?_
        refine a_ldcS C0 11 (lt_b rfl) dX4_readSentence_55 ?_
        refine a_callV _ 1 C0 em_TBc (c_X4_isName l G (w := 11) (by decide) q0.1 (ad := fun k => ad (8 + k))) u_c_X4_isName u_m_X4_51 u_im_X4_isName u_se_X4_isName u_in_X4 hy_X4_isName rfl (lt_b rfl) rfl (hRk rfl) rfl rfl (le_b rfl) dX4_readSentence_57 (k_ro em_TBc ?_)
        rw [q0.2.1]
        refine a_if_eqb C0 74 dX4_readSentence_60 rfl (fun h60 => ?_) (fun h60 => ?_)
        · refine a_aload_n C0 2 dX4_readSentence_74 rfl rfl ?_
          refine a_ldcS C0 12 (lt_b rfl) dX4_readSentence_75 ?_
          refine a_callV _ 1 C0 em_TBc (c_X4_isName l G (w := 12) (by decide) q0.1 (ad := fun k => ad (8 + k))) u_c_X4_isName u_m_X4_51 u_im_X4_isName u_se_X4_isName u_in_X4 hy_X4_isName rfl (lt_b rfl) rfl (hRk rfl) rfl rfl (le_b rfl) dX4_readSentence_77 (k_ro em_TBc ?_)
          rw [q0.2.1]
          refine a_if_eqb C0 95 dX4_readSentence_80 rfl (fun h80 => ?_) (fun h80 => ?_)
          · refine a_iconst C0 0 dX4_readSentence_95 rfl ?_
            refine a_zret C0 hr rfl dX4_readSentence_96 ?_
            refine re_ ?_
            unfold rdSent
            rw [if_pos h7, if_pos h24]
            rw [show (if nmT b t0 10 = true then rdHouse b n 2 7 P t0 else _) = _ from if_neg h40, show (if nmT b t0 11 = true then rdHouse b n 3 99 P t0 else _) = _ from if_neg h60]
            first
              | (rw [show (if nmT b t0 12 = true then rdBox b n P t0 else _) = _ from if_neg h80]
                 exact RE.f q0 rfl)
              | (rw [show (if nmT b t0 12 = true then rdBox b n P t0 else _) = _ from if_pos h80]
                 refine ⟨?_, q85.2⟩
                 rw [q85.1] at h88
                 first
                   | exact (bI_t (bI_1 h88)).symm
                   | exact (bI_f (bI_0 h88)).symm)
          · refine a_aload_n C0 2 dX4_readSentence_83 rfl rfl ?_
            refine a_aload_n C0 3 dX4_readSentence_84 rfl rfl ?_
            refine a_callV _ 1 C0 EM.refl (c_X4_readBox l G rfl q0) u_c_X4_readBox u_m_X4_70 u_im_X4_readBox u_se_X4_readBox u_in_X4 hy_X4_readBox rfl (lt_b rfl) rfl (hRk rfl) rfl rfl (le_b rfl) dX4_readSentence_85 (k_i fun r85 u85 q85 => ?_)
            refine a_if_eq C0 95 dX4_readSentence_88 rfl (fun h88 => ?_) (fun h88 => ?_)
            · refine a_iconst C0 0 dX4_readSentence_95 rfl ?_
              refine a_zret C0 hr rfl dX4_readSentence_96 ?_
              refine re_ ?_
              unfold rdSent
              rw [if_pos h7, if_pos h24]
              rw [show (if nmT b t0 10 = true then rdHouse b n 2 7 P t0 else _) = _ from if_neg h40, show (if nmT b t0 11 = true then rdHouse b n 3 99 P t0 else _) = _ from if_neg h60]
              first
                | (rw [show (if nmT b t0 12 = true then rdBox b n P t0 else _) = _ from if_neg h80]
                   exact RE.f q0 rfl)
                | (rw [show (if nmT b t0 12 = true then rdBox b n P t0 else _) = _ from if_pos h80]
                   refine ⟨?_, q85.2⟩
                   rw [q85.1] at h88
                   first
                     | exact (bI_t (bI_1 h88)).symm
                     | exact (bI_f (bI_0 h88)).symm)
            · refine a_iconst C0 1 dX4_readSentence_91 rfl ?_
              refine a_goto C0 96 dX4_readSentence_92 rfl ?_
              refine a_zret C0 hr rfl dX4_readSentence_96 ?_
              refine re_ ?_
              unfold rdSent
              rw [if_pos h7, if_pos h24]
              rw [show (if nmT b t0 10 = true then rdHouse b n 2 7 P t0 else _) = _ from if_neg h40, show (if nmT b t0 11 = true then rdHouse b n 3 99 P t0 else _) = _ from if_neg h60]
              first
                | (rw [show (if nmT b t0 12 = true then rdBox b n P t0 else _) = _ from if_neg h80]
                   exact RE.f q0 rfl)
                | (rw [show (if nmT b t0 12 = true then rdBox b n P t0 else _) = _ from if_pos h80]
                   refine ⟨?_, q85.2⟩
                   rw [q85.1] at h88
                   first
                     | exact (bI_t (bI_1 h88)).symm
                     | exact (bI_f (bI_0 h88)).symm)
        · refine a_aload_n C0 2 dX4_readSentence_63 rfl rfl ?_
          refine a_aload_n C0 3 dX4_readSentence_64 rfl rfl ?_
          refine g_X4_66 C0 (lt_b rfl) rfl rfl dX4_readSentence_65 ?_
          refine a_bipush C0 99 dX4_readSentence_68 rfl ?_
          refine a_callV _ 2 C0 EM.refl (c_X4_readOfHouse_3 l G rfl q0) u_c_X4_readOfHouse u_m_X4_60 u_im_X4_readOfHouse u_se_X4_readOfHouse u_in_X4 hy_X4_readOfHouse rfl (lt_b rfl) rfl (hRk rfl) rfl rfl (le_b rfl) dX4_readSentence_70 (k_i fun r70 u70 q70 => ?_)
          refine a_zret C0 hr (by rw [q70.1]; exact bI_nar _) dX4_readSentence_73 ?_
          refine re_ ?_
          unfold rdSent
          rw [if_pos h7, if_pos h24]
          rw [show (if nmT b t0 10 = true then rdHouse b n 2 7 P t0 else _) = _ from if_neg h40, show (if nmT b t0 11 = true then rdHouse b n 3 99 P t0 else _) = _ from if_pos h60]
          exact q70
      · refine a_aload_n C0 2 dX4_readSentence_43 rfl rfl ?_
        refine a_aload_n C0 3 dX4_readSentence_44 rfl rfl ?_
        refine g_X4_55 C0 (lt_b rfl) rfl rfl dX4_readSentence_45 ?_
        refine a_bipush C0 7 dX4_readSentence_48 rfl ?_
        refine a_callV _ 2 C0 EM.refl (c_X4_readOfHouse_2 l G rfl q0) u_c_X4_readOfHouse u_m_X4_60 u_im_X4_readOfHouse u_se_X4_readOfHouse u_in_X4 hy_X4_readOfHouse rfl (lt_b rfl) rfl (hRk rfl) rfl rfl (le_b rfl) dX4_readSentence_50 (k_i fun r50 u50 q50 => ?_)
        refine a_zret C0 hr (by rw [q50.1]; exact bI_nar _) dX4_readSentence_53 ?_
        refine re_ ?_
        unfold rdSent
        rw [if_pos h7, if_pos h24]
        rw [show (if nmT b t0 10 = true then rdHouse b n 2 7 P t0 else _) = _ from if_pos h40]
        exact q50
    · refine a_aload_n C0 2 dX4_readSentence_27 rfl rfl ?_
      refine a_aload_n C0 3 dX4_readSentence_28 rfl rfl ?_
      refine a_iload_n C0 0 dX4_readSentence_29 rfl rfl ?_
      refine a_callV _ 2 C0 EM.refl (c_X4_readLaw l G (lwT_in h24) rfl q0) u_c_X4_readLaw u_m_X4_46 u_im_X4_readLaw u_se_X4_readLaw u_in_X4 hy_X4_readLaw rfl (lt_b rfl) rfl (hRk rfl) rfl rfl (le_b rfl) dX4_readSentence_30 (k_i fun r30 u30 q30 => ?_)
      refine a_zret C0 hr (by rw [q30.1]; exact bI_nar _) dX4_readSentence_33 ?_
      refine re_ ?_
      unfold rdSent
      rw [if_pos h7, if_neg h24]
      exact q30
  · refine a_aload_n C0 1 dX4_readSentence_10 rfl rfl ?_
    refine a_aload_n C0 2 dX4_readSentence_11 rfl rfl ?_
    refine a_iload_n C0 0 dX4_readSentence_12 rfl rfl ?_
    refine a_callV _ 2 C0 EM.refl (c_X4_readTale l G hT hT8 rfl q0) u_c_X4_readTale u_m_X4_39 u_im_X4_readTale u_se_X4_readTale u_in_X4 hy_X4_readTale rfl (lt_b rfl) rfl (hRk rfl) rfl rfl (le_b rfl) dX4_readSentence_13 (k_i fun r13 u13 q13 => ?_)
    refine a_zret C0 hr (by rw [q13.1]; exact bI_nar _) dX4_readSentence_16 ?_
    refine re_ ?_
    unfold rdSent
    rw [if_neg h7]
    exact q13
set_option maxRecDepth 100000 in
set_option maxHeartbeats 4000000 in
theorem c_X4_readInto (l : Launch) (G : GE) {ad : Nat → Nat} {M : WM} {P D : WM} {b : Nat → Int32} {n : Nat} (hM : M = mkT P D) (h1 : D 0 1 = nI n) (hn : n ≤ 200) (hb : D 1 = b) (hc0 : TC P) : CT l G yX4_readInto cX4_readInto 3 (some .int) 8 [.ref (ad 8), .ref (ad 0)] 10 ad (shT G ad) M (PI (RI b n P (tk b n 0) (n + 1))) := by
  refine CT.of (own := RX4) rfl rfl (le_b rfl) fun p e s m args below meth c A C0 hr => ?_
  refine AW.lo (ls2 := [(0, _), (1, _)]) rfl ?_
  subst hM
  have a0 : TS (up2 D 0 4 0) n 0 := ⟨h1, hn, rfl, Nat.zero_le _⟩
  have q1 : TKS (advB (up2 D 0 4 0) n 0) b n (tk b n 0) := a0.adv2 hb
  have lp : ∀ (n2 : Nat) (i : Nat) (xi : Int32) (P1 D2 : WM) (t : Tk), n + 1 - i < n2 → (i ≤ n + 1) → (xi = nI i) → (TC P1) → (TKS D2 b n t) → (rdI b n (n + 1 - i) P1 t = rdI b n (n + 1) P (tk b n 0)) → AW p l e (rmk 8) s m args below meth c G A 10 ad (shT G ad) 3 0 0 (MQ below (CQ G 10 ad (shT G ad) A (PI (RI b n P (tk b n 0) (n + 1)))) args s 0 0 A) 11 [(0, .ref (ad 8)), (1, .ref (ad 0)), (2, .int xi)] [] (mkT P1 D2) := by
    intro n2
    induction n2 with
    | zero =>
      intro i xi P1 D2 t hn
      exact absurd hn (Nat.not_lt_zero _)
    | succ n2 ih =>
      intro i xi P1 D2 t hn hi hxi hc q2 hr2
      have e1c : D2 0 1 = nI n := q2.1.1
      have hk3 : D2 0 2 = nI t.1 := q2.1.2.2.1
      have hk4 := q2.1.2.2.2.1
      obtain ⟨T1, hT1, eT1⟩ := id hc
      refine a_iload_n C0 2 dX4_readInto_11 rfl rfl ?_
      refine a_aload_n C0 0 dX4_readInto_12 rfl rfl ?_
      refine g_X4_19 C0 (lt_b rfl) rfl rfl dX4_readInto_13 ?_
      refine a_icmp_gt C0 45 dX4_readInto_16 rfl (fun h16 => ?_) (fun h16 => ?_)
      · refine a_iconst C0 (-1) dX4_readInto_45 rfl ?_
        refine a_iret C0 hr dX4_readInto_46 ?_
        refine ri_ ⟨?_, D2, ?_, e1c, q2.2.1⟩
        all_goals
          rw [← hr2]
          first
            | (have hge : n < i := by
                 rw [show mkT P1 D2 8 1 = D2 0 1 from rfl, e1c, hxi] at h16
                 exact (nI_ltI (by omega) (by omega)).mp h16
               rw [show n + 1 - i = 0 by omega]
               rfl)
            | (rw [show n + 1 - i = (n + 1 - (i + 1)) + 1 by omega]
               have hk0 : t.1 = 0 := by
                 rw [show mkT P1 D2 8 2 = D2 0 2 from rfl, hk3] at h23
                 exact (nI_eq (b := 0) (by omega) (by decide)).mp h23
               rw [show rdI b n (n + 1 - (i + 1) + 1) P1 t = (-1, P1) from if_pos hk0])
      · have hlt : i ≤ n := Nat.not_lt.mp fun q => h16 ((nI_ltI (by omega) (by omega)).mpr q |> fun z => by rw [hxi]; exact (by rw [e1c]; exact z : D2 0 1 < nI i))
        refine a_aload_n C0 0 dX4_readInto_19 rfl rfl ?_
        refine g_X4_15 C0 (lt_b rfl) rfl rfl dX4_readInto_20 ?_
        refine a_if_eq C0 45 dX4_readInto_23 rfl (fun h23 => ?_) (fun h23 => ?_)
        · refine a_iconst C0 (-1) dX4_readInto_45 rfl ?_
          refine a_iret C0 hr dX4_readInto_46 ?_
          refine ri_ ⟨?_, D2, ?_, e1c, q2.2.1⟩
          all_goals
            rw [← hr2]
            first
              | (have hge : n < i := by
                   rw [show mkT P1 D2 8 1 = D2 0 1 from rfl, e1c, hxi] at h16
                   exact (nI_ltI (by omega) (by omega)).mp h16
                 rw [show n + 1 - i = 0 by omega]
                 rfl)
              | (rw [show n + 1 - i = (n + 1 - (i + 1)) + 1 by omega]
                 have hk0 : t.1 = 0 := by
                   rw [show mkT P1 D2 8 2 = D2 0 2 from rfl, hk3] at h23
                   exact (nI_eq (b := 0) (by omega) (by decide)).mp h23
                 rw [show rdI b n (n + 1 - (i + 1) + 1) P1 t = (-1, P1) from if_pos hk0])
        · have hk0 : ¬ t.1 = 0 := fun q => h23 (by rw [show mkT P1 D2 8 2 = D2 0 2 from rfl, hk3, q]; rfl)
          refine a_aload_n C0 0 dX4_readInto_26 rfl rfl ?_
          refine a_aload_n C0 1 dX4_readInto_27 rfl rfl ?_
          refine a_callV _ 1 C0 EM.refl (c_X4_readSentence l G eT1 hT1 rfl q2) u_c_X4_readSentence u_m_X4_28 u_im_X4_readSentence u_se_X4_readSentence u_in_X4 hy_X4_readSentence rfl (lt_b rfl) rfl (hRk rfl) rfl rfl (le_b rfl) dX4_readInto_28 (k_i fun r28 u28 q28 => ?_)
          refine a_if_ne C0 39 dX4_readInto_31 rfl (fun h31 => ?_) (fun h31 => ?_)
          · refine a_iinc (ls2 := [(2, _), (0, _), (1, _)]) C0 2 1 dX4_readInto_39 rfl rfl (lt_b rfl) rfl ?_
            refine a_goto C0 11 dX4_readInto_42 rfl ?_
            refine AW.sub (ls2 := [(0, _), (1, _), (2, _)]) [1, 2, 0] rfl ?_
            have h31 : (rdSent b n P1 t).1 = true := bI_1 (by rw [← q28.1]; exact h31)
            obtain ⟨D3, rfl, q3⟩ := q28.2
            exact ih (i + 1) _ _ _ _ (by omega) (by omega) (by rw [hxi, nI_1]) hc.sent q3 (by
              rw [← hr2, show n + 1 - i = (n + 1 - (i + 1)) + 1 by omega]
              exact ((if_neg hk0).trans (if_pos h31)).symm)
          · refine a_aload_n C0 0 dX4_readInto_34 rfl rfl ?_
            refine g_X4_32 C0 (lt_b rfl) rfl rfl dX4_readInto_35 ?_
            refine a_iret C0 hr dX4_readInto_38 ?_
            have h31 : ¬ (rdSent b n P1 t).1 = true := bI_0 (by rw [← q28.1]; exact h31)
            obtain ⟨D3, rfl, q3⟩ := q28.2
            refine ri_ ⟨?_, D3, ?_, q3.1.1, q3.2.1⟩
            all_goals
              rw [← hr2, show n + 1 - i = (n + 1 - (i + 1)) + 1 by omega]
              rw [show rdI b n (n + 1 - (i + 1) + 1) P1 t = (nI (rdSent b n P1 t).2.2.2.1, (rdSent b n P1 t).2.1) from (if_neg hk0).trans (if_neg h31)]
            exact q3.1.2.2.2.2.1
  refine a_aload_n C0 0 dX4_readInto_0 rfl rfl ?_
  refine a_iconst C0 0 dX4_readInto_1 rfl ?_
  refine p_X4_22 C0 (lt_b rfl) rfl (lt_b rfl) rfl rfl dX4_readInto_2 ?_
  refine AW.congr (M := mkT P (up2 D 0 4 0)) (fun i hi => by rw [mkT_tp]) ?_
  refine a_aload_n C0 0 dX4_readInto_5 rfl rfl ?_
  refine a_callV _ 0 C0 em_TBc (c_X4_advance l G a0 (ad := fun k => ad (8 + k))) u_c_X4_advance u_m_X4_25 u_im_X4_advance u_se_X4_advance u_in_X4 hy_X4_advance rfl (lt_b rfl) rfl (hRk rfl) rfl rfl (le_b rfl) dX4_readInto_6 (k_vo ?_)
  refine a_iconst C0 0 dX4_readInto_9 rfl ?_
  refine a_istore_n (ls2 := [(2, _), (0, _), (1, _)]) C0 dX4_readInto_10 rfl (lt_b rfl) rfl ?_
  refine AW.sub (ls2 := [(0, _), (1, _), (2, _)]) [1, 2, 0] rfl ?_
  exact lp (n + 2) 0 _ _ _ _ (by omega) (Nat.zero_le _) rfl hc0 q1 rfl
