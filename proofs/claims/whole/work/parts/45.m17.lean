
/-- the class's Doing and the model's -/
def DR (Z : WM) (O : RW) (X : WM) : Prop := Z 0 1 = O 21 ∧ (∃ n, n ≤ 30 ∧ Z 0 1 = nI n) ∧ (∀ k, k < 30 → X 13 k = Z 1 k) ∧ Z 0 2 = O 22 ∧ Z 0 3 = O 23 ∧ Z 0 4 = O 24 ∧ Z 0 5 = O 25
/-- nothing else changes -/
def EqD (O : RW) (X : WM) (O2 : RW) (X2 : WM) : Prop := (∀ i, i < 21 → O2 i = O i) ∧ ∀ c, c ≠ 13 → X2 c = X c
theorem EqD.refl (O : RW) (X : WM) : EqD O X O X := ⟨fun _ _ => rfl, fun _ _ => rfl⟩
theorem EqD.trans {O O2 O3 : RW} {X X2 X3 : WM} (a : EqD O X O2 X2) (b : EqD O2 X2 O3 X3) : EqD O X O3 X3 := ⟨fun i hi => (b.1 i hi).trans (a.1 i hi), fun c hc => (b.2 c hc).trans (a.2 c hc)⟩
def DP (O S : RW) (X : WM) (q : Int32 × WM) (r : Int32) (u : WM) : Prop := r = q.1 ∧ ∃ O2 X2, u = mkM O2 S X2 ∧ DR q.2 O2 X2 ∧ EqD O X O2 X2
theorem DR.note {Z : WM} {O : RW} {X : WM} {b : Int32} (d : DR Z O X) (h : Z 0 1 < 30) : DR (noteD Z b) (upS O 21 (O 21 + 1)) (up2 X 13 (ix (O 21)) b) := by
  obtain ⟨d1, ⟨n, hn, dn⟩, d2, d3, d4, d5, d6⟩ := d
  have e : noteD Z b = up2 (up2 Z 1 (ix (Z 0 1)) b) 0 1 (Z 0 1 + 1) := if_pos h
  have hn2 : n < 30 := by
    rw [dn] at h
    exact (nI_ltI (b := 30) (by omega) (by decide)).mp h
  rw [e]
  refine ⟨?_, ⟨n + 1, hn2, ?_⟩, fun k hk => ?_, d3, d4, d5, d6⟩
  · show Z 0 1 + 1 = O 21 + 1
    rw [d1]
  · show Z 0 1 + 1 = _
    rw [dn, nI_1]
  · show (if k = ix (O 21) then b else X 13 k) = if k = ix (Z 0 1) then b else Z 1 k
    rw [d1, d2 k hk]
theorem note_f {Z : WM} {b : Int32} {j : Nat} (h : j ≠ 1) : noteD Z b 0 j = Z 0 j := by
  unfold noteD
  split
  · exact if_neg h
  · rfl
def mStP (Z : WM) (x : Int32) : Int32 × WM := (x * 2 - (noteD Z 10) 0 3, noteD Z 10)
def mStR (Z : WM) (x : Int32) : Int32 × WM := (0 - (mStP (noteD Z 30) x).1, (mStP (noteD Z 30) x).2)
def mSt (Z : WM) (x : Int32) : Int32 × WM := if Z 0 2 = 2 then mStR Z x else if Z 0 2 = 4 then ((mStR (noteD Z 40) x).1 * 3, (mStR (noteD Z 40) x).2) else if Z 0 2 = 3 then ((mStP (noteD Z 51) x).1 + (mStP (noteD Z 51) x).2 0 4, (mStP (noteD Z 51) x).2) else mStP Z x
def mSmP (Z : WM) (x : Int32) : Int32 × WM := ((mSt (noteD Z 11) x).1 + (mSt (noteD Z 11) x).2 0 4 * 4, (mSt (noteD Z 11) x).2)
def mSm (Z : WM) (x : Int32) : Int32 × WM := if Z 0 2 = 1 ∨ Z 0 2 = 3 then ((mSmP (noteD Z 20) x).1 - 1, (mSmP (noteD Z 20) x).2) else if Z 0 2 = 4 then ((mSmP (noteD Z 41) x).1 ^^^ (mSt (mSmP (noteD Z 41) x).2 ((mSmP (noteD Z 41) x).2 0 4)).1, (mSt (mSmP (noteD Z 41) x).2 ((mSmP (noteD Z 41) x).2 0 4)).2) else mSmP Z x

set_option maxRecDepth 100000 in
set_option maxHeartbeats 4000000 in
theorem c_X6_runs (l : Launch) (G : GE) {ad : Nat → Nat} {M : WM} {O S : RW} {X : WM} {b : Int32} {Z : WM} (dr : DR Z O X) (hM : M = mkM O S X)  : CT l G yX6_runs cX6_runs 2 none 0 [.ref (ad 0), .int b] 14 ad (shM G ad) M (PV (fun u => ∃ O2 X2, u = mkM O2 S X2 ∧ DR (noteD Z b) O2 X2 ∧ EqD O X O2 X2)) := by
  refine CT.of (own := RX6) rfl rfl (le_b rfl) fun p e s m args below meth c A C0 hr => ?_
  refine AW.lo (ls2 := [(0, _), (1, _)]) rfl ?_
  subst hM
  refine a_aload_n C0 0 dX6_runs_0 rfl rfl ?_
  refine g_X6_299 C0 (lt_b rfl) rfl rfl dX6_runs_1 ?_
  refine a_bipush C0 30 dX6_runs_4 rfl ?_
  refine a_icmp_ge C0 29 dX6_runs_6 rfl (fun h6 => ?_) (fun h6 => ?_)
  · refine a_vret C0 hr dX6_runs_29 ?_
    first
      | (rw [mkM_X (by decide), mkM_O]
         exact ⟨rfl, _, _, rfl, dr.note hlt, fun i hi => if_neg (by omega), fun c hc => by
           funext k
           exact if_neg hc⟩)
      | (have hge : ¬ Z 0 1 < 30 := by
           rw [dr.1]
           exact Int32.not_lt.mpr h6
         refine ⟨rfl, _, _, rfl, ?_, EqD.refl _ _⟩
         rw [show noteD Z b = Z from if_neg hge]
         exact dr)
  · have hlt : Z 0 1 < 30 := by
      rw [dr.1]
      exact Int32.not_le.mp h6
    have hx : IX (mkM O S X 0 21) (ix (O 21)) 30 := IX.v (by
      obtain ⟨n, hn, e⟩ := dr.2.1
      show vp_in (O 21) 30
      rw [← dr.1]
      rw [e] at hlt ⊢
      exact vp_in_nI ((nI_ltI (b := 30) (by omega) (by decide)).mp hlt) (by decide))
    refine a_aload_n C0 0 dX6_runs_9 rfl rfl ?_
    refine g_X6_46 C0 (lt_b rfl) rfl rfl dX6_runs_10 ?_
    refine a_aload_n C0 0 dX6_runs_13 rfl rfl ?_
    refine g_X6_299 C0 (lt_b rfl) rfl rfl dX6_runs_14 ?_
    refine a_iload_n C0 1 dX6_runs_17 rfl rfl ?_
    refine a_iast C0 _ (lt_b rfl) (fun _ => rfl) hx.1 hx.2 dX6_runs_18 ?_
    refine a_aload_n C0 0 dX6_runs_19 rfl rfl ?_
    refine a_dup C0 dX6_runs_20 rfl ?_
    refine g_X6_299 C0 (lt_b rfl) rfl rfl dX6_runs_21 ?_
    refine a_iconst C0 1 dX6_runs_24 rfl ?_
    refine a_iadd C0 dX6_runs_25 ?_
    refine p_X6_299 C0 (lt_b rfl) rfl (lt_b rfl) rfl rfl dX6_runs_26 ?_
    refine a_vret C0 hr dX6_runs_29 ?_
    first
      | (rw [mkM_X (by decide), mkM_O]
         exact ⟨rfl, _, _, rfl, dr.note hlt, fun i hi => if_neg (by omega), fun c hc => by
           funext k
           exact if_neg hc⟩)
      | (have hge : ¬ Z 0 1 < 30 := by
           rw [dr.1]
           exact Int32.not_lt.mpr h6
         refine ⟨rfl, _, _, rfl, ?_, EqD.refl _ _⟩
         rw [show noteD Z b = Z from if_neg hge]
         exact dr)
set_option maxRecDepth 100000 in
set_option maxHeartbeats 4000000 in
theorem c_X6_steamsPlain (l : Launch) (G : GE) {ad : Nat → Nat} {M : WM} {O S : RW} {X : WM} {x : Int32} {Z : WM} (dr : DR Z O X) (hM : M = mkM O S X)  : CT l G yX6_steamsPlain cX6_steamsPlain 2 (some .int) 1 [.ref (ad 0), .int x] 14 ad (shM G ad) M (PI (DP O S X (mStP Z x))) := by
  refine CT.of (own := RX6) rfl rfl (le_b rfl) fun p e s m args below meth c A C0 hr => ?_
  refine AW.lo (ls2 := [(0, _), (1, _)]) rfl ?_
  subst hM
  refine a_aload_n C0 0 dX6_steamsPlain_0 rfl rfl ?_
  refine a_bipush C0 10 dX6_steamsPlain_1 rfl ?_
  refine a_callV _ 1 C0 EM.refl (c_X6_runs l G dr rfl) u_c_X6_runs u_m_X6_302 u_im_X6_runs u_se_X6_runs u_in_X6 hy_X6_runs rfl (lt_b rfl) rfl (hRk rfl) rfl rfl (le_b rfl) dX6_steamsPlain_3 (k_v fun u3 q3 => ?_)
  obtain ⟨O2, X2, rfl, d2, f2⟩ := q3
  refine a_iload_n C0 1 dX6_steamsPlain_6 rfl rfl ?_
  refine a_iconst C0 2 dX6_steamsPlain_7 rfl ?_
  refine a_imul C0 dX6_steamsPlain_8 ?_
  refine a_aload_n C0 0 dX6_steamsPlain_9 rfl rfl ?_
  refine g_X6_305 C0 (lt_b rfl) rfl rfl dX6_steamsPlain_10 ?_
  refine a_isub C0 dX6_steamsPlain_13 ?_
  refine a_iret C0 hr dX6_steamsPlain_14 ?_
  exact ⟨_, rfl, congrArg (fun q => x * 2 - q) d2.2.2.2.2.1.symm, _, _, rfl, d2, f2⟩
set_option maxRecDepth 100000 in
set_option maxHeartbeats 4000000 in
theorem c_X6_steamsOfRumour (l : Launch) (G : GE) {ad : Nat → Nat} {M : WM} {O S : RW} {X : WM} {x : Int32} {Z : WM} (dr : DR Z O X) (hM : M = mkM O S X)  : CT l G yX6_steamsOfRumour cX6_steamsOfRumour 2 (some .int) 2 [.ref (ad 0), .int x] 14 ad (shM G ad) M (PI (DP O S X (mStR Z x))) := by
  refine CT.of (own := RX6) rfl rfl (le_b rfl) fun p e s m args below meth c A C0 hr => ?_
  refine AW.lo (ls2 := [(0, _), (1, _)]) rfl ?_
  subst hM
  refine a_aload_n C0 0 dX6_steamsOfRumour_0 rfl rfl ?_
  refine a_bipush C0 30 dX6_steamsOfRumour_1 rfl ?_
  refine a_callV _ 1 C0 EM.refl (c_X6_runs l G dr rfl) u_c_X6_runs u_m_X6_302 u_im_X6_runs u_se_X6_runs u_in_X6 hy_X6_runs rfl (lt_b rfl) rfl (hRk rfl) rfl rfl (le_b rfl) dX6_steamsOfRumour_3 (k_v fun u3 q3 => ?_)
  obtain ⟨O2, X2, rfl, d2, f2⟩ := q3
  refine a_iconst C0 0 dX6_steamsOfRumour_6 rfl ?_
  refine a_aload_n C0 0 dX6_steamsOfRumour_7 rfl rfl ?_
  refine a_iload_n C0 1 dX6_steamsOfRumour_8 rfl rfl ?_
  refine a_callV _ 1 C0 EM.refl (c_X6_steamsPlain l G d2 rfl) u_c_X6_steamsPlain u_m_X6_308 u_im_X6_steamsPlain u_se_X6_steamsPlain u_in_X6 hy_X6_steamsPlain rfl (lt_b rfl) rfl (hRk rfl) rfl rfl (le_b rfl) dX6_steamsOfRumour_9 (k_i fun r9 u9 q9 => ?_)
  obtain ⟨rfl, O3, X3, rfl, d3, f3⟩ := q9
  refine a_isub C0 dX6_steamsOfRumour_12 ?_
  refine a_iret C0 hr dX6_steamsOfRumour_13 ?_
  exact ⟨_, rfl, rfl, _, _, rfl, d3, f2.trans f3⟩
set_option maxRecDepth 100000 in
set_option maxHeartbeats 4000000 in
theorem c_X6_steams (l : Launch) (G : GE) {ad : Nat → Nat} {M : WM} {O S : RW} {X : WM} {x : Int32} {Z : WM} (dr : DR Z O X) (hM : M = mkM O S X)  : CT l G yX6_steams cX6_steams 2 (some .int) 3 [.ref (ad 0), .int x] 14 ad (shM G ad) M (PI (DP O S X (mSt Z x))) := by
  refine CT.of (own := RX6) rfl rfl (le_b rfl) fun p e s m args below meth c A C0 hr => ?_
  refine AW.lo (ls2 := [(0, _), (1, _)]) rfl ?_
  subst hM
  have e22 : mkM O S X 0 22 = Z 0 2 := dr.2.2.2.1.symm
  refine a_aload_n C0 0 dX6_steams_0 rfl rfl ?_
  refine g_X6_311 C0 (lt_b rfl) rfl rfl dX6_steams_1 ?_
  refine a_case 2 (fun h4 => ?_) (fun h4n_2 => ?_)
  · refine a_tsIn C0 32 dX6_steams_4 (by decide) (by decide) rfl rfl ?_
    refine a_aload_n C0 0 dX6_steams_32 rfl rfl ?_
    refine a_iload_n C0 1 dX6_steams_33 rfl rfl ?_
    refine a_callV _ 1 C0 EM.refl (c_X6_steamsOfRumour l G dr rfl) u_c_X6_steamsOfRumour u_m_X6_314 u_im_X6_steamsOfRumour u_se_X6_steamsOfRumour u_in_X6 hy_X6_steamsOfRumour rfl (lt_b rfl) rfl (hRk rfl) rfl rfl (le_b rfl) dX6_steams_34 (k_i fun r34 u34 q34 => ?_)
    obtain ⟨rfl, O3, X3, rfl, d3, f3⟩ := q34
    refine a_iret C0 hr dX6_steams_37 ?_
    have k2 : Z 0 2 = 2 := e22.symm.trans h4
    rw [show mSt Z x = mStR Z x from if_pos k2]
    exact ⟨_, rfl, rfl, _, _, rfl, d3, f3⟩
  refine a_case 3 (fun h4 => ?_) (fun h4n_3 => ?_)
  · refine a_tsIn C0 52 dX6_steams_4 (by decide) (by decide) rfl rfl ?_
    refine a_aload_n C0 0 dX6_steams_52 rfl rfl ?_
    refine a_bipush C0 51 dX6_steams_53 rfl ?_
    refine a_callV _ 1 C0 EM.refl (c_X6_runs l G dr rfl) u_c_X6_runs u_m_X6_302 u_im_X6_runs u_se_X6_runs u_in_X6 hy_X6_runs rfl (lt_b rfl) rfl (hRk rfl) rfl rfl (le_b rfl) dX6_steams_55 (k_v fun u55 q55 => ?_)
    obtain ⟨O2, X2, rfl, d2, f2⟩ := q55
    refine a_aload_n C0 0 dX6_steams_58 rfl rfl ?_
    refine a_iload_n C0 1 dX6_steams_59 rfl rfl ?_
    refine a_callV _ 1 C0 EM.refl (c_X6_steamsPlain l G d2 rfl) u_c_X6_steamsPlain u_m_X6_308 u_im_X6_steamsPlain u_se_X6_steamsPlain u_in_X6 hy_X6_steamsPlain rfl (lt_b rfl) rfl (hRk rfl) rfl rfl (le_b rfl) dX6_steams_60 (k_i fun r60 u60 q60 => ?_)
    obtain ⟨rfl, O3, X3, rfl, d3, f3⟩ := q60
    refine a_aload_n C0 0 dX6_steams_63 rfl rfl ?_
    refine g_X6_317 C0 (lt_b rfl) rfl rfl dX6_steams_64 ?_
    refine a_iadd C0 dX6_steams_67 ?_
    refine a_iret C0 hr dX6_steams_68 ?_
    have k3 : Z 0 2 = 3 := e22.symm.trans h4
    have n2 : ¬ Z 0 2 = 2 := fun q => absurd (k3.symm.trans q) (by decide)
    have n4 : ¬ Z 0 2 = 4 := fun q => absurd (k3.symm.trans q) (by decide)
    rw [show mSt Z x = _ from (if_neg n2).trans ((if_neg n4).trans (if_pos k3))]
    exact ⟨_, rfl, congrArg (fun q => (mStP (noteD Z 51) x).1 + q) d3.2.2.2.2.2.1.symm, _, _, rfl, d3, f2.trans f3⟩
  refine a_case 4 (fun h4 => ?_) (fun h4n_4 => ?_)
  · refine a_tsIn C0 38 dX6_steams_4 (by decide) (by decide) rfl rfl ?_
    refine a_aload_n C0 0 dX6_steams_38 rfl rfl ?_
    refine a_bipush C0 40 dX6_steams_39 rfl ?_
    refine a_callV _ 1 C0 EM.refl (c_X6_runs l G dr rfl) u_c_X6_runs u_m_X6_302 u_im_X6_runs u_se_X6_runs u_in_X6 hy_X6_runs rfl (lt_b rfl) rfl (hRk rfl) rfl rfl (le_b rfl) dX6_steams_41 (k_v fun u41 q41 => ?_)
    obtain ⟨O2, X2, rfl, d2, f2⟩ := q41
    refine a_aload_n C0 0 dX6_steams_44 rfl rfl ?_
    refine a_iload_n C0 1 dX6_steams_45 rfl rfl ?_
    refine a_callV _ 1 C0 EM.refl (c_X6_steamsOfRumour l G d2 rfl) u_c_X6_steamsOfRumour u_m_X6_314 u_im_X6_steamsOfRumour u_se_X6_steamsOfRumour u_in_X6 hy_X6_steamsOfRumour rfl (lt_b rfl) rfl (hRk rfl) rfl rfl (le_b rfl) dX6_steams_46 (k_i fun r46 u46 q46 => ?_)
    obtain ⟨rfl, O3, X3, rfl, d3, f3⟩ := q46
    refine a_iconst C0 3 dX6_steams_49 rfl ?_
    refine a_imul C0 dX6_steams_50 ?_
    refine a_iret C0 hr dX6_steams_51 ?_
    have k4 : Z 0 2 = 4 := e22.symm.trans h4
    have n2 : ¬ Z 0 2 = 2 := fun q => absurd (k4.symm.trans q) (by decide)
    rw [show mSt Z x = _ from (if_neg n2).trans (if_pos k4)]
    exact ⟨_, rfl, rfl, _, _, rfl, d3, f2.trans f3⟩
  refine a_tsOut C0 69 dX6_steams_4 (by have t0 := lv_neT (a := 2) h4n_2 rfl; have t1 := lv_neT (a := 3) h4n_3 rfl; have t2 := lv_neT (a := 4) h4n_4 rfl; omega) rfl ?_
  refine a_aload_n C0 0 dX6_steams_69 rfl rfl ?_
  refine a_iload_n C0 1 dX6_steams_70 rfl rfl ?_
  refine a_callV _ 1 C0 EM.refl (c_X6_steamsPlain l G dr rfl) u_c_X6_steamsPlain u_m_X6_308 u_im_X6_steamsPlain u_se_X6_steamsPlain u_in_X6 hy_X6_steamsPlain rfl (lt_b rfl) rfl (hRk rfl) rfl rfl (le_b rfl) dX6_steams_71 (k_i fun r71 u71 q71 => ?_)
  obtain ⟨rfl, O3, X3, rfl, d3, f3⟩ := q71
  refine a_iret C0 hr dX6_steams_74 ?_
  have n2 : ¬ Z 0 2 = 2 := fun q => h4n_2 (e22.trans q)
  have n3 : ¬ Z 0 2 = 3 := fun q => h4n_3 (e22.trans q)
  have n4 : ¬ Z 0 2 = 4 := fun q => h4n_4 (e22.trans q)
  rw [show mSt Z x = _ from (if_neg n2).trans ((if_neg n4).trans (if_neg n3))]
  exact ⟨_, rfl, rfl, _, _, rfl, d3, f3⟩
