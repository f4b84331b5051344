
theorem moveP_no {P : WM} {t : Nat} (h : ¬ P 3 (ix (P 2 (ix (P 6 t)))) ≤ P 5 t) : ∀ k, moveP k P t = P
  | 0 => rfl
  | _ + 1 => if_neg h

set_option maxRecDepth 100000 in
set_option maxHeartbeats 4000000 in
theorem c_X6_reaches (l : Launch) (G : GE) {ad : Nat → Nat} {M : WM} {O S : RW} {X : WM} {P : WM} {nT mm : Nat} (rp : RP P S nT mm) {x h : Int32} {t : Nat} (hx : IX x t nT) (hh : vp_in h 8) (hM : M = mkM O S X)  : CT l G yX6_reaches cX6_reaches 3 none 0 [.ref (ad 0), .int x, .int h] 14 ad (shM G ad) M (PV (fun u => ∃ S', u = mkM O S' X ∧ RP (bringP P t h) S' nT mm)) := by
  refine CT.of (own := RX6) rfl rfl (le_b rfl) fun p e s m args below meth c A C0 hr => ?_
  refine AW.lo (ls2 := [(0, _), (1, _), (2, _)]) rfl ?_
  subst hM
  have hx8 := hx.le rp.t8
  have hp2 := pl_ (k := 2) (j := 2) hx8 ⟨vq rfl, rfl⟩
  have hp3 := pl_ (k := 3) (j := 3) hx8 ⟨vq rfl, rfl⟩
  refine a_aload_n C0 0 dX6_reaches_0 rfl rfl ?_
  refine g_X6_7 C0 (lt_b rfl) rfl rfl dX6_reaches_1 ?_
  refine a_bipush C0 31 dX6_reaches_4 rfl ?_
  refine a_iconst C0 4 dX6_reaches_6 rfl ?_
  refine a_iload_n C0 1 dX6_reaches_7 rfl rfl ?_
  refine a_imul C0 dX6_reaches_8 ?_
  refine a_iadd C0 dX6_reaches_9 ?_
  refine a_iconst C0 2 dX6_reaches_10 rfl ?_
  refine a_iadd C0 dX6_reaches_11 ?_
  refine a_iload_n C0 2 dX6_reaches_12 rfl rfl ?_
  refine a_iast C0 _ (lt_b rfl) (fun _ => rfl) hp2.1 hp2.2 dX6_reaches_13 ?_
  refine a_aload_n C0 0 dX6_reaches_14 rfl rfl ?_
  refine g_X6_7 C0 (lt_b rfl) rfl rfl dX6_reaches_15 ?_
  refine a_bipush C0 31 dX6_reaches_18 rfl ?_
  refine a_iconst C0 4 dX6_reaches_20 rfl ?_
  refine a_iload_n C0 1 dX6_reaches_21 rfl rfl ?_
  refine a_imul C0 dX6_reaches_22 ?_
  refine a_iadd C0 dX6_reaches_23 ?_
  refine a_iconst C0 3 dX6_reaches_24 rfl ?_
  refine a_iadd C0 dX6_reaches_25 ?_
  refine a_dup2 C0 dX6_reaches_26 rfl rfl ?_
  refine a_iald C0 _ (lt_b rfl) rfl hp3.1 hp3.2 dX6_reaches_27 ?_
  refine a_iconst C0 1 dX6_reaches_28 rfl ?_
  refine a_iload_n C0 2 dX6_reaches_29 rfl rfl ?_
  refine a_ishl C0 dX6_reaches_30 ?_
  refine a_ior C0 dX6_reaches_31 ?_
  refine a_iast C0 _ (lt_b rfl) (fun _ => rfl) hp3.1 hp3.2 dX6_reaches_32 ?_
  refine a_vret C0 hr dX6_reaches_33 ?_
  have e : up2 (mkM O S X) 1 (31 + 4 * t + 2) h 1 (31 + 4 * t + 3) = S (31 + 4 * t + 3) := (if_pos rfl).trans (if_neg (by omega))
  rw [e]
  exact ⟨rfl, _, by rw [mkM_S, mkM_S], rp.bring hx.lt hh⟩
set_option maxRecDepth 100000 in
set_option maxHeartbeats 4000000 in
theorem c_X6_goesOn (l : Launch) (G : GE) {ad : Nat → Nat} {M : WM} {O S : RW} {X : WM} {P : WM} {nT mm : Nat} (rp : RP P S nT mm) (hm : mm < 2 ^ 31) (hM : M = mkM O S X)  : CT l G yX6_goesOn cX6_goesOn 5 none 2 [.ref (ad 0)] 14 ad (shM G ad) M (PV (fun u => ∃ S', u = mkM O S' X ∧ RP (passP P nT) S' nT (mm + 1))) := by
  refine CT.of (own := RX6) rfl rfl (le_b rfl) fun p e s m args below meth c A C0 hr => ?_
  refine AW.lo (ls2 := [(0, _)]) rfl ?_
  subst hM
  have t8 := rp.t8
  have lp : ∀ (n : Nat) (i : Nat) (xi : Int32) (S1 : RW), nT - i < n → (i ≤ nT) → (xi = nI i) → (RP (handsP P i) S1 nT mm) → AW p l e (rmk 2) s m args below meth c G A 14 ad (shM G ad) 5 0 0 (MQ below (CQ G 14 ad (shM G ad) A (PV (fun u => ∃ S', u = mkM O S' X ∧ RP (passP P nT) S' nT (mm + 1)))) args s 0 0 A) 2 [(0, .ref (ad 0)), (1, .int xi)] [] (mkM O S1 X) := by
    intro n
    induction n with
    | zero =>
      intro i xi S1 hn
      exact absurd hn (Nat.not_lt_zero _)
    | succ n ih =>
      intro i xi S1 hn hi hxi rp1
      refine a_iload_n C0 1 dX6_goesOn_2 rfl rfl ?_
      refine a_aload_n C0 0 dX6_goesOn_3 rfl rfl ?_
      refine g_X6_7 C0 (lt_b rfl) rfl rfl dX6_goesOn_4 ?_
      refine a_iconst C0 0 dX6_goesOn_7 rfl ?_
      refine a_iald C0 0 (lt_b rfl) rfl (vq rfl) rfl dX6_goesOn_8 ?_
      refine a_icmp_ge C0 137 dX6_goesOn_9 rfl (fun h9 => ?_) (fun h9 => ?_)
      · refine a_aload_n C0 0 dX6_goesOn_137 rfl rfl ?_
        refine g_X6_7 C0 (lt_b rfl) rfl rfl dX6_goesOn_138 ?_
        refine a_iconst C0 1 dX6_goesOn_141 rfl ?_
        refine a_dup2 C0 dX6_goesOn_142 rfl rfl ?_
        refine a_iald C0 1 (lt_b rfl) rfl (vq rfl) rfl dX6_goesOn_143 ?_
        refine a_iconst C0 1 dX6_goesOn_144 rfl ?_
        refine a_iadd C0 dX6_goesOn_145 ?_
        refine a_iast C0 1 (lt_b rfl) (fun _ => rfl) (vq rfl) rfl dX6_goesOn_146 ?_
        refine a_vret C0 hr dX6_goesOn_147 ?_
        have e : i = nT := Nat.le_antisymm hi (i_ge hxi rp1.n2 (by omega) (by omega) h9)
        subst e
        exact ⟨rfl, _, by rw [mkM_S]; rfl, rp1.min⟩
      · have hlt : i < nT := i_lt hxi rp1.n2 (by omega) (by omega) h9
        have hx : IX xi i nT := IX.eqn hxi hlt (by omega)
        refine a_aload_n C0 0 dX6_goesOn_12 rfl rfl ?_
        refine a_iload_n C0 1 dX6_goesOn_13 rfl rfl ?_
        refine a_callV _ 1 C0 EM.refl (c_X6_doors l G rp1 hx hm rfl) u_c_X6_doors u_m_X6_179 u_im_X6_doors u_se_X6_doors u_in_X6 hy_X6_doors rfl (lt_b rfl) rfl (hRk rfl) rfl rfl (le_b rfl) dX6_goesOn_14 (k_ro EM.refl ?_)
        refine a_istore_n (ls2 := [(2, _), (0, _), (1, _)]) C0 dX6_goesOn_17 rfl (lt_b rfl) rfl ?_
        refine a_iconst C0 0 dX6_goesOn_18 rfl ?_
        refine a_istore_n (ls2 := [(3, _), (2, _), (0, _), (1, _)]) C0 dX6_goesOn_19 rfl (lt_b rfl) rfl ?_
        obtain ⟨dn, hd2, hdn0⟩ := doors_2 (P := handsP P i) (t := i) rp1.m1 hm
        have hdn : ix (doorsP (handsP P i) i) = dn := by rw [hdn0]; exact nI_clamp (by omega)
        have lq : ∀ (n2 : Nat) (k : Nat) (xk : Int32) (P2 : WM) (S2 : RW), dn - k < n2 → (k ≤ dn) → (xk = nI k) → (RP P2 S2 nT mm) → (moveP (dn - k) P2 i = moveP dn (handsP P i) i) → AW p l e (rmk 2) s m args below meth c G A 14 ad (shM G ad) 5 0 0 (MQ below (CQ G 14 ad (shM G ad) A (PV (fun u => ∃ S', u = mkM O S' X ∧ RP (passP P nT) S' nT (mm + 1)))) args s 0 0 A) 20 [(0, .ref (ad 0)), (1, .int xi), (2, .int (doorsP (handsP P i) i)), (3, .int xk)] [] (mkM O S2 X) := by
          intro n2
          induction n2 with
          | zero =>
            intro k xk P2 S2 hn
            exact absurd hn (Nat.not_lt_zero _)
          | succ n2 ih2 =>
            intro k xk P2 S2 hn hk hxk rp2 hmv
            refine a_iload_n C0 3 dX6_goesOn_20 rfl rfl ?_
            refine a_iload_n C0 2 dX6_goesOn_21 rfl rfl ?_
            refine a_icmp_ge C0 73 dX6_goesOn_22 rfl (fun h22 => ?_) (fun h22 => ?_)
            · have hkd : k = dn := Nat.le_antisymm hk (i_ge hxk hdn0 (by omega) (by omega) h22)
              subst hkd
              have hP2 : P2 = moveP k (handsP P i) i := by
                rw [← hmv, Nat.sub_self]
                rfl
              have hat := rp2.atw i hlt
              have hbp := ((IX.v hat).pl 23 (bb := 23) rfl (by decide)).le (n2 := 63) (by decide)
              have e23 : mkM O S2 X 1 (23 + ix (P2 6 i)) = (P2 0 7 >>> (P2 6 i &&& 31)) &&& 1 := by
                have q := rp2.bx _ (vp_lt hat)
                rw [← (IX.v hat).eq (by decide)] at q
                exact q
              have hph := pl_ (k := 1) (j := 1) (hx.le rp2.t8) ⟨vq rfl, rfl⟩
              refine a_aload_n C0 0 dX6_goesOn_73 rfl rfl ?_
              refine g_X6_7 C0 (lt_b rfl) rfl rfl dX6_goesOn_74 ?_
              refine a_bipush C0 23 dX6_goesOn_77 rfl ?_
              refine a_aload_n C0 0 dX6_goesOn_79 rfl rfl ?_
              refine a_iload_n C0 1 dX6_goesOn_80 rfl rfl ?_
              refine a_iconst C0 2 dX6_goesOn_81 rfl ?_
              refine a_callV _ 2 C0 EM.refl (c_X6_its l G (c := 6) rp2 hx ⟨vq rfl, rfl⟩ rfl rfl) u_c_X6_its u_m_X6_167 u_im_X6_its u_se_X6_its u_in_X6 hy_X6_its rfl (lt_b rfl) rfl (hRk rfl) rfl rfl (le_b rfl) dX6_goesOn_82 (k_ro EM.refl ?_)
              refine a_iadd C0 dX6_goesOn_85 ?_
              refine a_iald C0 _ (lt_b rfl) rfl hbp.1 hbp.2 dX6_goesOn_86 ?_
              refine a_iconst C0 1 dX6_goesOn_87 rfl ?_
              refine a_icmp_ne C0 101 dX6_goesOn_88 rfl (fun h88 => ?_) (fun h88 => ?_)
              · have hbx : ¬ boxP P2 (P2 6 i) := by
                  rw [e23] at h88
                  exact h88
                refine a_aload_n C0 0 dX6_goesOn_101 rfl rfl ?_
                refine a_iload_n C0 1 dX6_goesOn_102 rfl rfl ?_
                refine a_callV _ 1 C0 EM.refl (c_X6_cools l G rp2 hx rfl) u_c_X6_cools u_m_X6_176 u_im_X6_cools u_se_X6_cools u_in_X6 hy_X6_cools rfl (lt_b rfl) rfl (hRk rfl) rfl rfl (le_b rfl) dX6_goesOn_103 (k_ro EM.refl ?_)
                refine a_istore_n (ls2 := [(3, _), (0, _), (1, _), (2, _)]) C0 dX6_goesOn_106 rfl (lt_b rfl) rfl ?_
                refine a_aload_n C0 1 dX6_goesOn_107 rfl rfl ?_
                refine g_X6_7 C0 (lt_b rfl) rfl rfl dX6_goesOn_108 ?_
                refine a_bipush C0 31 dX6_goesOn_111 rfl ?_
                refine a_iconst C0 4 dX6_goesOn_113 rfl ?_
                refine a_iload_n C0 2 dX6_goesOn_114 rfl rfl ?_
                refine a_imul C0 dX6_goesOn_115 ?_
                refine a_iadd C0 dX6_goesOn_116 ?_
                refine a_iconst C0 1 dX6_goesOn_117 rfl ?_
                refine a_iadd C0 dX6_goesOn_118 ?_
                refine a_aload_n C0 1 dX6_goesOn_119 rfl rfl ?_
                refine a_iload_n C0 2 dX6_goesOn_120 rfl rfl ?_
                refine a_iconst C0 1 dX6_goesOn_121 rfl ?_
                refine a_callV _ 2 C0 EM.refl (c_X6_its l G (c := 5) rp2 hx ⟨vq rfl, rfl⟩ rfl rfl) u_c_X6_its u_m_X6_167 u_im_X6_its u_se_X6_its u_in_X6 hy_X6_its rfl (lt_b rfl) rfl (hRk rfl) rfl rfl (le_b rfl) dX6_goesOn_122 (k_ro EM.refl ?_)
                refine a_iload_n C0 0 dX6_goesOn_125 rfl rfl ?_
                refine a_isub C0 dX6_goesOn_126 ?_
                refine a_callS _ 1 C0 EM.z (c_X6_within l G) u_c_X6_within u_m_X6_198 u_st_X6_within u_in_X6 hy_X6_within.2 (hRk rfl) rfl rfl (le_b rfl) dX6_goesOn_127 (k_ro EM.z ?_)
                refine a_iast C0 _ (lt_b rfl) (fun _ => rfl) hph.1 hph.2 dX6_goesOn_130 ?_
                refine a_iinc (ls2 := [(1, _), (3, _), (0, _), (2, _)]) C0 2 1 dX6_goesOn_131 rfl rfl (lt_b rfl) rfl ?_
                refine a_goto C0 2 dX6_goesOn_134 rfl ?_
                refine AW.sub (ls2 := [(0, _), (1, _)]) [2, 0] rfl ?_
                rw [mkM_S]
                refine ih (i + 1) _ _ (by omega) hlt (by rw [hxi, nI_1]) ?_
                show RP (handP (handsP P i) i) _ nT mm
                unfold handP
                rw [hdn, ← hP2]
                first
                  | (rw [if_pos hbx]; exact rp2.heat (t := i) hlt (held_in _))
                  | (rw [if_neg hbx]; exact rp2.heat (t := i) hlt (held_in _))
              · have hbx : boxP P2 (P2 6 i) := by
                  rw [e23] at h88
                  exact h88
                refine a_aload_n C0 0 dX6_goesOn_91 rfl rfl ?_
                refine a_iload_n C0 1 dX6_goesOn_92 rfl rfl ?_
                refine a_callV _ 1 C0 EM.refl (c_X6_cools l G rp2 hx rfl) u_c_X6_cools u_m_X6_176 u_im_X6_cools u_se_X6_cools u_in_X6 hy_X6_cools rfl (lt_b rfl) rfl (hRk rfl) rfl rfl (le_b rfl) dX6_goesOn_93 (k_ro EM.refl ?_)
                refine a_iconst C0 2 dX6_goesOn_96 rfl ?_
                refine a_idiv C0 dX6_goesOn_97 (by decide) ?_
                refine a_goto C0 106 dX6_goesOn_98 rfl ?_
                refine a_istore_n (ls2 := [(3, _), (0, _), (1, _), (2, _)]) C0 dX6_goesOn_106 rfl (lt_b rfl) rfl ?_
                refine a_aload_n C0 1 dX6_goesOn_107 rfl rfl ?_
                refine g_X6_7 C0 (lt_b rfl) rfl rfl dX6_goesOn_108 ?_
                refine a_bipush C0 31 dX6_goesOn_111 rfl ?_
                refine a_iconst C0 4 dX6_goesOn_113 rfl ?_
                refine a_iload_n C0 2 dX6_goesOn_114 rfl rfl ?_
                refine a_imul C0 dX6_goesOn_115 ?_
                refine a_iadd C0 dX6_goesOn_116 ?_
                refine a_iconst C0 1 dX6_goesOn_117 rfl ?_
                refine a_iadd C0 dX6_goesOn_118 ?_
                refine a_aload_n C0 1 dX6_goesOn_119 rfl rfl ?_
                refine a_iload_n C0 2 dX6_goesOn_120 rfl rfl ?_
                refine a_iconst C0 1 dX6_goesOn_121 rfl ?_
                refine a_callV _ 2 C0 EM.refl (c_X6_its l G (c := 5) rp2 hx ⟨vq rfl, rfl⟩ rfl rfl) u_c_X6_its u_m_X6_167 u_im_X6_its u_se_X6_its u_in_X6 hy_X6_its rfl (lt_b rfl) rfl (hRk rfl) rfl rfl (le_b rfl) dX6_goesOn_122 (k_ro EM.refl ?_)
                refine a_iload_n C0 0 dX6_goesOn_125 rfl rfl ?_
                refine a_isub C0 dX6_goesOn_126 ?_
                refine a_callS _ 1 C0 EM.z (c_X6_within l G) u_c_X6_within u_m_X6_198 u_st_X6_within u_in_X6 hy_X6_within.2 (hRk rfl) rfl rfl (le_b rfl) dX6_goesOn_127 (k_ro EM.z ?_)
                refine a_iast C0 _ (lt_b rfl) (fun _ => rfl) hph.1 hph.2 dX6_goesOn_130 ?_
                refine a_iinc (ls2 := [(1, _), (3, _), (0, _), (2, _)]) C0 2 1 dX6_goesOn_131 rfl rfl (lt_b rfl) rfl ?_
                refine a_goto C0 2 dX6_goesOn_134 rfl ?_
                refine AW.sub (ls2 := [(0, _), (1, _)]) [2, 0] rfl ?_
                rw [mkM_S]
                refine ih (i + 1) _ _ (by omega) hlt (by rw [hxi, nI_1]) ?_
                show RP (handP (handsP P i) i) _ nT mm
                unfold handP
                rw [hdn, ← hP2]
                first
                  | (rw [if_pos hbx]; exact rp2.heat (t := i) hlt (held_in _))
                  | (rw [if_neg hbx]; exact rp2.heat (t := i) hlt (held_in _))
            · have hltk : k < dn := i_lt hxk hdn0 (by omega) (by omega) h22
              have hat := rp2.atw i hlt
              have hfp := ((IX.v hat).pl 7 (bb := 7) rfl (by decide)).le (n2 := 63) (by decide)
              have e7 : mkM O S2 X 1 (7 + ix (P2 6 i)) = P2 2 (ix (P2 6 i)) := rp2.fr _ (vp_lt hat)
              have hfr := rp2.frw _ (vp_lt hat)
              refine a_aload_n C0 0 dX6_goesOn_25 rfl rfl ?_
              refine g_X6_7 C0 (lt_b rfl) rfl rfl dX6_goesOn_26 ?_
              refine a_bipush C0 7 dX6_goesOn_29 rfl ?_
              refine a_aload_n C0 0 dX6_goesOn_31 rfl rfl ?_
              refine a_iload_n C0 1 dX6_goesOn_32 rfl rfl ?_
              refine a_iconst C0 2 dX6_goesOn_33 rfl ?_
              refine a_callV _ 2 C0 EM.refl (c_X6_its l G (c := 6) rp2 hx ⟨vq rfl, rfl⟩ rfl rfl) u_c_X6_its u_m_X6_167 u_im_X6_its u_se_X6_its u_in_X6 hy_X6_its rfl (lt_b rfl) rfl (hRk rfl) rfl rfl (le_b rfl) dX6_goesOn_34 (k_ro EM.refl ?_)
              refine a_iadd C0 dX6_goesOn_37 ?_
              refine a_iald C0 _ (lt_b rfl) rfl hfp.1 hfp.2 dX6_goesOn_38 ?_
              rw [e7]
              refine a_istore (ls2 := [(4, _), (0, _), (1, _), (2, _), (3, _)]) C0 dX6_goesOn_39 (lt_b rfl) rfl ?_
              refine a_aload_n C0 1 dX6_goesOn_41 rfl rfl ?_
              refine a_iload_n C0 2 dX6_goesOn_42 rfl rfl ?_
              refine a_iconst C0 1 dX6_goesOn_43 rfl ?_
              have htp := ((IX.v hfr).pl 15 (bb := 15) rfl (by decide)).le (n2 := 63) (by decide)
              have e15 : mkM O S2 X 1 (15 + ix (P2 2 (ix (P2 6 i)))) = P2 3 (ix (P2 2 (ix (P2 6 i)))) := rp2.ta _ (vp_lt hfr)
              refine a_callV _ 2 C0 EM.refl (c_X6_its l G (c := 5) rp2 hx ⟨vq rfl, rfl⟩ rfl rfl) u_c_X6_its u_m_X6_167 u_im_X6_its u_se_X6_its u_in_X6 hy_X6_its rfl (lt_b rfl) rfl (hRk rfl) rfl rfl (le_b rfl) dX6_goesOn_44 (k_ro EM.refl ?_)
              refine a_aload_n C0 1 dX6_goesOn_47 rfl rfl ?_
              refine g_X6_7 C0 (lt_b rfl) rfl rfl dX6_goesOn_48 ?_
              refine a_bipush C0 15 dX6_goesOn_51 rfl ?_
              refine a_iload C0 0 dX6_goesOn_53 rfl ?_
              refine a_iadd C0 dX6_goesOn_55 ?_
              refine a_iald C0 _ (lt_b rfl) rfl htp.1 htp.2 dX6_goesOn_56 ?_
              refine a_icmp_lt C0 67 dX6_goesOn_57 rfl (fun h57 => ?_) (fun h57 => ?_)
              · refine a_iinc (ls2 := [(3, _), (4, _), (0, _), (1, _), (2, _)]) C0 4 1 dX6_goesOn_67 rfl rfl (lt_b rfl) rfl ?_
                refine a_goto C0 20 dX6_goesOn_70 rfl ?_
                refine AW.sub (ls2 := [(0, _), (1, _), (2, _), (3, _)]) [2, 3, 4, 0] rfl ?_
                first
                  | (have hc : ¬ P2 3 (ix (P2 2 (ix (P2 6 i)))) ≤ P2 5 i := fun q => by
                       rw [e15] at h57
                       exact absurd h57 (Int32.not_lt.mpr q)
                     exact ih2 (k + 1) _ P2 _ (by omega) hltk (by rw [hxk, nI_1]) rp2 (by rw [← hmv, moveP_no hc, moveP_no hc]))
                  | (have hc : P2 3 (ix (P2 2 (ix (P2 6 i)))) ≤ P2 5 i := by
                       rw [e15] at h57
                       exact Int32.not_lt.mp h57
                     exact ih2 (k + 1) _ _ _ (by omega) hltk (by rw [hxk, nI_1]) rp3 (by
                       rw [← hmv, show dn - k = (dn - (k + 1)) + 1 by omega]
                       exact (if_pos hc).symm))
              · refine a_aload_n C0 1 dX6_goesOn_60 rfl rfl ?_
                refine a_iload_n C0 2 dX6_goesOn_61 rfl rfl ?_
                refine a_iload C0 0 dX6_goesOn_62 rfl ?_
                refine a_callV _ 2 C0 EM.refl (c_X6_reaches l G rp2 hx hfr rfl) u_c_X6_reaches u_m_X6_182 u_im_X6_reaches u_se_X6_reaches u_in_X6 hy_X6_reaches rfl (lt_b rfl) rfl (hRk rfl) rfl rfl (le_b rfl) dX6_goesOn_64 (k_v fun u64 q64 => ?_)
                obtain ⟨S3, rfl, rp3⟩ := q64
                refine a_iinc (ls2 := [(3, _), (4, _), (0, _), (1, _), (2, _)]) C0 4 1 dX6_goesOn_67 rfl rfl (lt_b rfl) rfl ?_
                refine a_goto C0 20 dX6_goesOn_70 rfl ?_
                refine AW.sub (ls2 := [(0, _), (1, _), (2, _), (3, _)]) [2, 3, 4, 0] rfl ?_
                first
                  | (have hc : ¬ P2 3 (ix (P2 2 (ix (P2 6 i)))) ≤ P2 5 i := fun q => by
                       rw [e15] at h57
                       exact absurd h57 (Int32.not_lt.mpr q)
                     exact ih2 (k + 1) _ P2 _ (by omega) hltk (by rw [hxk, nI_1]) rp2 (by rw [← hmv, moveP_no hc, moveP_no hc]))
                  | (have hc : P2 3 (ix (P2 2 (ix (P2 6 i)))) ≤ P2 5 i := by
                       rw [e15] at h57
                       exact Int32.not_lt.mp h57
                     exact ih2 (k + 1) _ _ _ (by omega) hltk (by rw [hxk, nI_1]) rp3 (by
                       rw [← hmv, show dn - k = (dn - (k + 1)) + 1 by omega]
                       exact (if_pos hc).symm))
        refine AW.sub (ls2 := [(0, _), (1, _), (2, _), (3, _)]) [2, 3, 1, 0] rfl ?_
        exact lq (dn + 1) 0 _ _ _ (by omega) (Nat.zero_le _) rfl rp1 rfl
  refine a_iconst C0 0 dX6_goesOn_0 rfl ?_
  refine a_istore_n (ls2 := [(1, _), (0, _)]) C0 dX6_goesOn_1 rfl (lt_b rfl) rfl ?_
  refine AW.sub (ls2 := [(0, _), (1, _)]) [1, 0] rfl ?_
  exact lp (nT + 1) 0 _ _ (by omega) (Nat.zero_le _) rfl rp
set_option maxRecDepth 100000 in
set_option maxHeartbeats 4000000 in
theorem c_X6_goes (l : Launch) (G : GE) {ad : Nat → Nat} {M : WM} {O S : RW} {X : WM} {P : WM} {nT mm : Nat} (rp : RP P S nT mm) {y : Int32} {yn : Nat} (hy : y = nI yn) (hm : mm + yn < 2 ^ 31) (hM : M = mkM O S X)  : CT l G yX6_goes cX6_goes 3 none 3 [.ref (ad 0), .int y] 14 ad (shM G ad) M (PV (fun u => ∃ S', u = mkM O S' X ∧ RP (passesP yn P nT) S' nT (mm + yn))) := by
  refine CT.of (own := RX6) rfl rfl (le_b rfl) fun p e s m args below meth c A C0 hr => ?_
  refine AW.lo (ls2 := [(0, _), (1, _)]) rfl ?_
  subst hM
  have lp : ∀ (n : Nat) (i : Nat) (xi : Int32) (S1 : RW), yn - i < n → (i ≤ yn) → (xi = nI i) → (RP (passesP i P nT) S1 nT (mm + i)) → AW p l e (rmk 3) s m args below meth c G A 14 ad (shM G ad) 3 0 0 (MQ below (CQ G 14 ad (shM G ad) A (PV (fun u => ∃ S', u = mkM O S' X ∧ RP (passesP yn P nT) S' nT (mm + yn)))) args s 0 0 A) 2 [(0, .ref (ad 0)), (1, .int y), (2, .int xi)] [] (mkM O S1 X) := by
    intro n
    induction n with
    | zero =>
      intro i xi S1 hn
      exact absurd hn (Nat.not_lt_zero _)
    | succ n ih =>
      intro i xi S1 hn hi hxi rp1
      refine a_iload_n C0 2 dX6_goes_2 rfl rfl ?_
      refine a_iload_n C0 1 dX6_goes_3 rfl rfl ?_
      refine a_icmp_ge C0 17 dX6_goes_4 rfl (fun h4 => ?_) (fun h4 => ?_)
      · refine a_vret C0 hr dX6_goes_17 ?_
        have e : i = yn := Nat.le_antisymm hi (i_ge hxi hy (by omega) (by omega) h4)
        subst e
        exact ⟨rfl, _, rfl, rp1⟩
      · have hlt : i < yn := i_lt hxi hy (by omega) (by omega) h4
        refine a_aload_n C0 0 dX6_goes_7 rfl rfl ?_
        refine a_callV _ 0 C0 EM.refl (c_X6_goesOn l G rp1 (by omega) rfl) u_c_X6_goesOn u_m_X6_201 u_im_X6_goesOn u_se_X6_goesOn u_in_X6 hy_X6_goesOn rfl (lt_b rfl) rfl (hRk rfl) rfl rfl (le_b rfl) dX6_goes_8 (k_v fun u8 q8 => ?_)
        obtain ⟨S3, rfl, rp3⟩ := q8
        refine a_iinc (ls2 := [(2, _), (0, _), (1, _)]) C0 2 1 dX6_goes_11 rfl rfl (lt_b rfl) rfl ?_
        refine a_goto C0 2 dX6_goes_14 rfl ?_
        refine AW.sub (ls2 := [(0, _), (1, _), (2, _)]) [1, 2, 0] rfl ?_
        exact ih (i + 1) _ _ (by omega) hlt (by rw [hxi, nI_1]) rp3
  refine a_iconst C0 0 dX6_goes_0 rfl ?_
  refine a_istore_n (ls2 := [(2, _), (0, _), (1, _)]) C0 dX6_goes_1 rfl (lt_b rfl) rfl ?_
  refine AW.sub (ls2 := [(0, _), (1, _), (2, _)]) [1, 2, 0] rfl ?_
  exact lp (yn + 1) 0 _ _ (by omega) (Nat.zero_le _) rfl rp
