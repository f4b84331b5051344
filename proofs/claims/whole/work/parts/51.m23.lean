
def begD (D : WM) (k n h : Int32) : WM := up2 (up2 (up2 (up2 D 0 2 k) 0 3 n) 0 4 h) 0 5 0
def endD (q : Int32 × WM) : Int32 × WM := (if q.2 0 5 = 0 then q.1 else -15, q.2)
theorem perf_0 {D : WM} {k n h x a : Int32} {j : Nat} (ha : a = 0) (hj : j < 6) (e : k = nI j) : perfD D k n h a x = endD (mSt (begD D k n h) x) := by
  subst ha
  rw [← rn_st (f := 14) (D := begD D k n h) (x := x) rfl hj e]
  rfl
theorem perf_1 {D : WM} {k n h x a : Int32} {j : Nat} (ha : a = 1) (hj : j < 6) (e : k = nI j) : perfD D k n h a x = endD (mSm (begD D k n h) x) := by
  subst ha
  rw [← rn_sm (f := 12) (D := begD D k n h) (x := x) rfl hj e]
  rfl
theorem perf_2 {D : WM} {k n h x a : Int32} {j : Nat} (ha : a = 2) (hj : j < 6) (e : k = nI j) : perfD D k n h a x = endD (mPt (begD D k n h) x) := by
  subst ha
  rw [← rn_pt (f := 13) (D := begD D k n h) (x := x) rfl hj e]
  rfl
theorem perf_3 {D : WM} {k n h x a : Int32} {j : Nat} (ha : a = 3) (hj : j < 6) (e : k = nI j) : perfD D k n h a x = endD (mBu (begD D k n h) x) := by
  subst ha
  rw [← rn_bu (f := 10) (D := begD D k n h) (x := x) rfl hj e]
  rfl
theorem DR.zero {Z : WM} {O : RW} {X : WM} (d : DR Z O X) : DR (up2 Z 0 1 0) (upS O 21 0) X := ⟨rfl, ⟨0, Nat.zero_le _, rfl⟩, d.2.2.1, d.2.2.2.1, d.2.2.2.2.1, d.2.2.2.2.2.1, d.2.2.2.2.2.2⟩
theorem DR.beg {Z : WM} {O : RW} {X : WM} (d : DR Z O X) (k n h : Int32) : DR (begD Z k n h) (upS (upS (upS (upS O 25 0) 22 k) 23 n) 24 h) X := ⟨d.1, d.2.1, d.2.2.1, rfl, rfl, rfl, rfl⟩
theorem EqD.z {O O2 : RW} {X X2 : WM} {k n h : Int32} (a : EqD (upS (upS (upS (upS (upS O 21 0) 25 0) 22 k) 23 n) 24 h) X O2 X2) : EqD O X O2 X2 := EqD.trans (((((EqD.refl O X).up (by decide)).up (by decide)).up (by decide)).up (by decide) |>.up (by decide)) a

set_option maxRecDepth 100000 in
set_option maxHeartbeats 4000000 in
theorem c_X6_act (l : Launch) (G : GE) {ad : Nat → Nat} {M : WM} {O S : RW} {X : WM} {P : WM} {nT mm : Nat} (rp : RP P S nT mm) {v a x : Int32} {H Z : WM} (rh : RHe H X) {Z : WM} (dr : DR Z O X) (hM : M = mkM O S X)  : CT l G yX6_act cX6_act 5 (some .int) 8 [.ref (ad 0), .int v, .int a, .int x] 14 ad (shM G ad) M (PI (fun r u => r = actR P H Z v a x ∧ ∃ O2 X2, u = mkM O2 S X2 ∧ DR (actZ P H Z v a x) O2 X2 ∧ EqD O X O2 X2)) := by
  refine CT.of (own := RX6) rfl rfl (le_b rfl) fun p e s m args below meth c A C0 hr => ?_
  refine AW.lo (ls2 := [(0, _), (1, _), (2, _), (3, _)]) rfl ?_
  subst hM
  refine a_aload_n C0 0 dX6_act_0 rfl rfl ?_
  refine a_iconst C0 0 dX6_act_1 rfl ?_
  refine p_X6_299 C0 (lt_b rfl) rfl (lt_b rfl) rfl rfl dX6_act_2 ?_
  rw [mkM_O]
  refine a_iload_n C0 1 dX6_act_5 rfl rfl ?_
  refine a_callS _ 1 C0 EM.z (c_X6_isShelf l G) u_c_X6_isShelf u_m_X6_284 u_st_X6_isShelf u_in_X6 hy_X6_isShelf.2 (hRk rfl) rfl rfl (le_b rfl) dX6_act_6 (k_ro EM.z ?_)
  refine a_if_eqb C0 33 dX6_act_9 rfl (fun h9 => ?_) (fun h9 => ?_)
  · refine a_iconst C0 0 dX6_act_33 rfl ?_
    refine a_iret C0 hr dX6_act_34 ?_
    have hc : ¬ (isSh v ∧ (0 ≤ a ∧ a ≤ 3) ∧ hdT P H (ix v)) := fun q => by
      first
        | exact h9 q.1
        | exact h21 q.2.1
        | exact h30 (if_pos q.2.2)
    exact ⟨_, rfl, by unfold actR; rw [if_neg hc], _, _, rfl, by unfold actZ; rw [if_neg hc]; exact dr.zero, (EqD.refl O X).up (by decide)⟩
  · refine a_iload_n C0 2 dX6_act_12 rfl rfl ?_
    refine a_i2l C0 dX6_act_13 ?_
    refine a_lconst C0 0 dX6_act_14 rfl ?_
    refine a_ldc2 C0 dX6_act_15 u_k_X6_154 ?_
    refine a_callS _ 3 C0 EM.z (c_X6_isIn l G (w2 := 0) (w3 := 3) rfl rfl rfl) u_c_X6_isIn u_m_X6_54 u_st_X6_isIn u_in_X6 hy_X6_isIn.2 (hRk rfl) rfl rfl (le_b rfl) dX6_act_18 (k_ro EM.z ?_)
    refine a_if_eqb C0 33 dX6_act_21 rfl (fun h21 => ?_) (fun h21 => ?_)
    · refine a_iconst C0 0 dX6_act_33 rfl ?_
      refine a_iret C0 hr dX6_act_34 ?_
      have hc : ¬ (isSh v ∧ (0 ≤ a ∧ a ≤ 3) ∧ hdT P H (ix v)) := fun q => by
        first
          | exact h9 q.1
          | exact h21 q.2.1
          | exact h30 (if_pos q.2.2)
      exact ⟨_, rfl, by unfold actR; rw [if_neg hc], _, _, rfl, by unfold actZ; rw [if_neg hc]; exact dr.zero, (EqD.refl O X).up (by decide)⟩
    · refine a_aload_n C0 0 dX6_act_24 rfl rfl ?_
      refine a_iload_n C0 1 dX6_act_25 rfl rfl ?_
      have hv4 := sh_in h9
      refine a_callV _ 1 C0 EM.refl (c_X6_heldOn l G rp rh hv4 rfl) u_c_X6_heldOn u_m_X6_293 u_im_X6_heldOn u_se_X6_heldOn u_in_X6 hy_X6_heldOn rfl (lt_b rfl) rfl (hRk rfl) rfl rfl (le_b rfl) dX6_act_26 (k_ro EM.refl ?_)
      refine a_iconst C0 1 dX6_act_29 rfl ?_
      refine a_icmp_eq C0 35 dX6_act_30 rfl (fun h30 => ?_) (fun h30 => ?_)
      · have hd : hdT P H (ix v) := by
          by_cases q : hdT P H (ix v)
          · exact q
          · rw [if_neg q] at h30
            by_cases q2 : H (ix v) 0 = 2
            · rw [if_pos q2] at h30
              exact absurd h30 (by decide)
            · rw [if_neg q2] at h30
              exact absurd h30 (by decide)
        have hc : (isSh v ∧ (0 ≤ a ∧ a ≤ 3) ∧ hdT P H (ix v)) := ⟨h9, h21, hd⟩
        have e11 : X 11 (ix v) = H (ix v) 1 := (rh _ (vp_lt hv4)).2.2.1 hd.1
        have hx : IX (H (ix v) 1) (ix (H (ix v) 1)) nT := IX.v ((isTl_in rp.w).mp hd.2)
        obtain ⟨j6, hj6, ej6⟩ := vp_in_of (rp.kdw _ hx.lt) (by decide)
        refine a_aload_n C0 0 dX6_act_35 rfl rfl ?_
        refine a_iconst C0 0 dX6_act_36 rfl ?_
        refine p_X6_326 C0 (lt_b rfl) rfl (lt_b rfl) rfl rfl rfl dX6_act_37 ?_
        rw [mkM_O]
        refine a_aload_n C0 0 dX6_act_40 rfl rfl ?_
        refine a_aload_n C0 0 dX6_act_41 rfl rfl ?_
        refine a_aload_n C0 0 dX6_act_42 rfl rfl ?_
        refine g_X6_40 C0 (lt_b rfl) rfl rfl dX6_act_43 ?_
        refine a_iload_n C0 1 dX6_act_46 rfl rfl ?_
        refine a_iald C0 _ (lt_b rfl) rfl hv4 rfl dX6_act_47 ?_
        rw [show mkM _ S X 11 (ix v) = H (ix v) 1 from e11]
        refine a_iconst C0 0 dX6_act_48 rfl ?_
        refine a_callV _ 2 C0 EM.refl (c_X6_its l G (c := 4) rp hx ⟨vq rfl, rfl⟩ rfl rfl) u_c_X6_its u_m_X6_167 u_im_X6_its u_se_X6_its u_in_X6 hy_X6_its rfl (lt_b rfl) rfl (hRk rfl) rfl rfl (le_b rfl) dX6_act_49 (k_ro EM.refl ?_)
        refine p_X6_311 C0 (lt_b rfl) rfl (lt_b rfl) rfl rfl dX6_act_52 ?_
        rw [mkM_O]
        refine a_aload_n C0 0 dX6_act_55 rfl rfl ?_
        refine a_aload_n C0 0 dX6_act_56 rfl rfl ?_
        refine g_X6_40 C0 (lt_b rfl) rfl rfl dX6_act_57 ?_
        refine a_iload_n C0 1 dX6_act_60 rfl rfl ?_
        refine a_iald C0 _ (lt_b rfl) rfl hv4 rfl dX6_act_61 ?_
        rw [show mkM _ S X 11 (ix v) = H (ix v) 1 from e11]
        refine p_X6_305 C0 (lt_b rfl) rfl (lt_b rfl) rfl rfl dX6_act_62 ?_
        rw [mkM_O]
        refine a_aload_n C0 0 dX6_act_65 rfl rfl ?_
        refine a_aload_n C0 0 dX6_act_66 rfl rfl ?_
        refine a_aload_n C0 0 dX6_act_67 rfl rfl ?_
        refine g_X6_40 C0 (lt_b rfl) rfl rfl dX6_act_68 ?_
        refine a_iload_n C0 1 dX6_act_71 rfl rfl ?_
        refine a_iald C0 _ (lt_b rfl) rfl hv4 rfl dX6_act_72 ?_
        rw [show mkM _ S X 11 (ix v) = H (ix v) 1 from e11]
        refine a_iconst C0 2 dX6_act_73 rfl ?_
        refine a_callV _ 2 C0 EM.refl (c_X6_its l G (c := 6) rp hx ⟨vq rfl, rfl⟩ rfl rfl) u_c_X6_its u_m_X6_167 u_im_X6_its u_se_X6_its u_in_X6 hy_X6_its rfl (lt_b rfl) rfl (hRk rfl) rfl rfl (le_b rfl) dX6_act_74 (k_ro EM.refl ?_)
        refine p_X6_317 C0 (lt_b rfl) rfl (lt_b rfl) rfl rfl dX6_act_77 ?_
        rw [mkM_O]
        have db := dr.zero.beg (P 4 (ix (H (ix v) 1))) (H (ix v) 1) (P 6 (ix (H (ix v) 1)))
        refine a_iload_n C0 2 dX6_act_80 rfl rfl ?_
        refine a_if_ne C0 92 dX6_act_81 rfl (fun h81 => ?_) (fun h81 => ?_)
        · refine a_iload_n C0 2 dX6_act_92 rfl rfl ?_
          refine a_iconst C0 1 dX6_act_93 rfl ?_
          refine a_icmp_ne C0 105 dX6_act_94 rfl (fun h94 => ?_) (fun h94 => ?_)
          · refine a_iload_n C0 2 dX6_act_105 rfl rfl ?_
            refine a_iconst C0 2 dX6_act_106 rfl ?_
            refine a_icmp_ne C0 118 dX6_act_107 rfl (fun h107 => ?_) (fun h107 => ?_)
            · refine a_aload_n C0 0 dX6_act_118 rfl rfl ?_
              refine a_iload_n C0 3 dX6_act_119 rfl rfl ?_
              refine a_callV _ 1 C0 EM.refl (c_X6_burns l G db rfl rfl) u_c_X6_burns u_m_X6_341 u_im_X6_burns u_se_X6_burns u_in_X6 hy_X6_burns rfl (lt_b rfl) rfl (hRk rfl) rfl rfl (le_b rfl) dX6_act_120 (k_i fun r120 u120 q120 => ?_)
              obtain ⟨rfl, O2, X2, rfl, d2, f2⟩ := q120
              have ea : a = 3 := by
                obtain ⟨j, hj, rfl⟩ := vp_in_of (in_of (n := 3) (by decide) h21) (by decide)
                match j, hj with
                | 0, _ => exact absurd rfl h81
                | 1, _ => exact absurd rfl h94
                | 2, _ => exact absurd rfl h107
                | 3, _ => rfl
              have pq := perf_3 (D := up2 Z 0 1 0) (n := H (ix v) 1) (h := P 6 (ix (H (ix v) 1))) (x := x) ea hj6 ej6
              
              refine a_istore (ls2 := [(4, _), (0, _), (1, _), (2, _), (3, _)]) C0 dX6_act_123 (lt_b rfl) rfl ?_
              refine a_aload_n C0 1 dX6_act_125 rfl rfl ?_
              refine g_X6_326 C0 (lt_b rfl) rfl rfl dX6_act_126 ?_
              refine a_if_eq C0 137 dX6_act_129 rfl (fun h129 => ?_) (fun h129 => ?_)
              · refine a_iload C0 0 dX6_act_137 rfl ?_
                refine a_iret C0 hr dX6_act_139 ?_
                have e5 := d2.2.2.2.2.2.2
                refine ⟨_, rfl, ?_, _, _, rfl, ?_, f2.z⟩
                · unfold actR
                  rw [if_pos hc, pq]
                  unfold endD
                  first
                    | exact (if_pos (e5.trans h129)).symm
                    | exact (if_neg fun q => h129 (e5.symm.trans q)).symm
                · unfold actZ
                  rw [if_pos hc, pq]
                  exact d2
              · refine a_bipush C0 (-15) dX6_act_132 rfl ?_
                refine a_goto C0 139 dX6_act_134 rfl ?_
                refine a_iret C0 hr dX6_act_139 ?_
                have e5 := d2.2.2.2.2.2.2
                refine ⟨_, rfl, ?_, _, _, rfl, ?_, f2.z⟩
                · unfold actR
                  rw [if_pos hc, pq]
                  unfold endD
                  first
                    | exact (if_pos (e5.trans h129)).symm
                    | exact (if_neg fun q => h129 (e5.symm.trans q)).symm
                · unfold actZ
                  rw [if_pos hc, pq]
                  exact d2
            · refine a_aload_n C0 0 dX6_act_110 rfl rfl ?_
              refine a_iload_n C0 3 dX6_act_111 rfl rfl ?_
              refine a_callV _ 1 C0 EM.refl (c_X6_parts l G db rfl rfl) u_c_X6_parts u_m_X6_338 u_im_X6_parts u_se_X6_parts u_in_X6 hy_X6_parts rfl (lt_b rfl) rfl (hRk rfl) rfl rfl (le_b rfl) dX6_act_112 (k_i fun r112 u112 q112 => ?_)
              obtain ⟨rfl, O2, X2, rfl, d2, f2⟩ := q112
              have ea : a = 2 := h107
              have pq := perf_2 (D := up2 Z 0 1 0) (n := H (ix v) 1) (h := P 6 (ix (H (ix v) 1))) (x := x) ea hj6 ej6
              
              refine a_goto C0 123 dX6_act_115 rfl ?_
              refine a_istore (ls2 := [(4, _), (0, _), (1, _), (2, _), (3, _)]) C0 dX6_act_123 (lt_b rfl) rfl ?_
              refine a_aload_n C0 1 dX6_act_125 rfl rfl ?_
              refine g_X6_326 C0 (lt_b rfl) rfl rfl dX6_act_126 ?_
              refine a_if_eq C0 137 dX6_act_129 rfl (fun h129 => ?_) (fun h129 => ?_)
              · refine a_iload C0 0 dX6_act_137 rfl ?_
                refine a_iret C0 hr dX6_act_139 ?_
                have e5 := d2.2.2.2.2.2.2
                refine ⟨_, rfl, ?_, _, _, rfl, ?_, f2.z⟩
                · unfold actR
                  rw [if_pos hc, pq]
                  unfold endD
                  first
                    | exact (if_pos (e5.trans h129)).symm
                    | exact (if_neg fun q => h129 (e5.symm.trans q)).symm
                · unfold actZ
                  rw [if_pos hc, pq]
                  exact d2
              · refine a_bipush C0 (-15) dX6_act_132 rfl ?_
                refine a_goto C0 139 dX6_act_134 rfl ?_
                refine a_iret C0 hr dX6_act_139 ?_
                have e5 := d2.2.2.2.2.2.2
                refine ⟨_, rfl, ?_, _, _, rfl, ?_, f2.z⟩
                · unfold actR
                  rw [if_pos hc, pq]
                  unfold endD
                  first
                    | exact (if_pos (e5.trans h129)).symm
                    | exact (if_neg fun q => h129 (e5.symm.trans q)).symm
                · unfold actZ
                  rw [if_pos hc, pq]
                  exact d2
          · refine a_aload_n C0 0 dX6_act_97 rfl rfl ?_
            refine a_iload_n C0 3 dX6_act_98 rfl rfl ?_
            refine a_callV _ 1 C0 EM.refl (c_X6_smells l G db rfl) u_c_X6_smells u_m_X6_332 u_im_X6_smells u_se_X6_smells u_in_X6 hy_X6_smells rfl (lt_b rfl) rfl (hRk rfl) rfl rfl (le_b rfl) dX6_act_99 (k_i fun r99 u99 q99 => ?_)
            obtain ⟨rfl, O2, X2, rfl, d2, f2⟩ := q99
            have ea : a = 1 := h94
            have pq := perf_1 (D := up2 Z 0 1 0) (n := H (ix v) 1) (h := P 6 (ix (H (ix v) 1))) (x := x) ea hj6 ej6
            
            refine a_goto C0 123 dX6_act_102 rfl ?_
            refine a_istore (ls2 := [(4, _), (0, _), (1, _), (2, _), (3, _)]) C0 dX6_act_123 (lt_b rfl) rfl ?_
            refine a_aload_n C0 1 dX6_act_125 rfl rfl ?_
            refine g_X6_326 C0 (lt_b rfl) rfl rfl dX6_act_126 ?_
            refine a_if_eq C0 137 dX6_act_129 rfl (fun h129 => ?_) (fun h129 => ?_)
            · refine a_iload C0 0 dX6_act_137 rfl ?_
              refine a_iret C0 hr dX6_act_139 ?_
              have e5 := d2.2.2.2.2.2.2
              refine ⟨_, rfl, ?_, _, _, rfl, ?_, f2.z⟩
              · unfold actR
                rw [if_pos hc, pq]
                unfold endD
                first
                  | exact (if_pos (e5.trans h129)).symm
                  | exact (if_neg fun q => h129 (e5.symm.trans q)).symm
              · unfold actZ
                rw [if_pos hc, pq]
                exact d2
            · refine a_bipush C0 (-15) dX6_act_132 rfl ?_
              refine a_goto C0 139 dX6_act_134 rfl ?_
              refine a_iret C0 hr dX6_act_139 ?_
              have e5 := d2.2.2.2.2.2.2
              refine ⟨_, rfl, ?_, _, _, rfl, ?_, f2.z⟩
              · unfold actR
                rw [if_pos hc, pq]
                unfold endD
                first
                  | exact (if_pos (e5.trans h129)).symm
                  | exact (if_neg fun q => h129 (e5.symm.trans q)).symm
              · unfold actZ
                rw [if_pos hc, pq]
                exact d2
        · refine a_aload_n C0 0 dX6_act_84 rfl rfl ?_
          refine a_iload_n C0 3 dX6_act_85 rfl rfl ?_
          refine a_callV _ 1 C0 EM.refl (c_X6_steams l G db rfl) u_c_X6_steams u_m_X6_320 u_im_X6_steams u_se_X6_steams u_in_X6 hy_X6_steams rfl (lt_b rfl) rfl (hRk rfl) rfl rfl (le_b rfl) dX6_act_86 (k_i fun r86 u86 q86 => ?_)
          obtain ⟨rfl, O2, X2, rfl, d2, f2⟩ := q86
          have ea : a = 0 := h81
          have pq := perf_0 (D := up2 Z 0 1 0) (n := H (ix v) 1) (h := P 6 (ix (H (ix v) 1))) (x := x) ea hj6 ej6
          
          refine a_goto C0 123 dX6_act_89 rfl ?_
          refine a_istore (ls2 := [(4, _), (0, _), (1, _), (2, _), (3, _)]) C0 dX6_act_123 (lt_b rfl) rfl ?_
          refine a_aload_n C0 1 dX6_act_125 rfl rfl ?_
          refine g_X6_326 C0 (lt_b rfl) rfl rfl dX6_act_126 ?_
          refine a_if_eq C0 137 dX6_act_129 rfl (fun h129 => ?_) (fun h129 => ?_)
          · refine a_iload C0 0 dX6_act_137 rfl ?_
            refine a_iret C0 hr dX6_act_139 ?_
            have e5 := d2.2.2.2.2.2.2
            refine ⟨_, rfl, ?_, _, _, rfl, ?_, f2.z⟩
            · unfold actR
              rw [if_pos hc, pq]
              unfold endD
              first
                | exact (if_pos (e5.trans h129)).symm
                | exact (if_neg fun q => h129 (e5.symm.trans q)).symm
            · unfold actZ
              rw [if_pos hc, pq]
              exact d2
          · refine a_bipush C0 (-15) dX6_act_132 rfl ?_
            refine a_goto C0 139 dX6_act_134 rfl ?_
            refine a_iret C0 hr dX6_act_139 ?_
            have e5 := d2.2.2.2.2.2.2
            refine ⟨_, rfl, ?_, _, _, rfl, ?_, f2.z⟩
            · unfold actR
              rw [if_pos hc, pq]
              unfold endD
              first
                | exact (if_pos (e5.trans h129)).symm
                | exact (if_neg fun q => h129 (e5.symm.trans q)).symm
            · unfold actZ
              rw [if_pos hc, pq]
              exact d2
      · refine a_iconst C0 0 dX6_act_33 rfl ?_
        refine a_iret C0 hr dX6_act_34 ?_
        have hc : ¬ (isSh v ∧ (0 ≤ a ∧ a ≤ 3) ∧ hdT P H (ix v)) := fun q => by
          first
            | exact h9 q.1
            | exact h21 q.2.1
            | exact h30 (if_pos q.2.2)
        exact ⟨_, rfl, by unfold actR; rw [if_neg hc], _, _, rfl, by unfold actZ; rw [if_neg hc]; exact dr.zero, (EqD.refl O X).up (by decide)⟩
