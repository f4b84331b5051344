
def mndN (N : WM) (g : Nat → Int32) (t j : Nat) : Nat → WM
  | 0 => N
  | k + 1 => up2 (mndN N g t j k) 5 (t + k) (held (g (j + k)))
def mndR (N S : WM) (v i x y : Int32) : Int32 := if (isSh v ∧ isTl N x ∧ (0 ≤ y ∧ y ≤ 8) ∧ x + y ≤ N 0 8) then (if S (2 * ix v) 0 = -1 then -11 else if S (2 * ix v) 0 = 0 then (if ((0 ≤ i ∧ i ≤ S (2 * ix v) 1) ∧ i + y ≤ S (2 * ix v) 1) then y else -12) else -13) else -1
def mndO (N S : WM) (v i x y : Int32) : WM := if (isSh v ∧ isTl N x ∧ (0 ≤ y ∧ y ≤ 8) ∧ x + y ≤ N 0 8) then (if S (2 * ix v) 0 = -1 then N else if S (2 * ix v) 0 = 0 then (if ((0 ≤ i ∧ i ≤ S (2 * ix v) 1) ∧ i + y ≤ S (2 * ix v) 1) then mndN N (S (2 * ix v + 1)) (ix x) (ix i) (ix y) else N) else N) else N
theorem WFP.mnd {P : WM} {n : Nat} (w : WFP P n) (g : Nat → Int32) (t j : Nat) : ∀ k, WFP (mndN P g t j k) n
  | 0 => w
  | k + 1 => (WFP.mnd w g t j k).heat
theorem leN {a b : Nat} (h : nI a ≤ nI b) (ha : a < 2 ^ 31) (hb : b < 2 ^ 31) : a ≤ b := (nI_leI ha hb).mp h

set_option maxRecDepth 100000 in
set_option maxHeartbeats 4000000 in
theorem c_X5_minds (l : Launch) (G : GE) {ad : Nat → Nat} {M : WM} {O : Nat → Int32} {N K T B R S H Z : WM} {v i x y : Int32} {nT cn : Nat} (w : WFP N nT) (hcn : ix v < 4 → S (2 * ix v) 1 = nI cn) (hcn40 : cn ≤ 40) (hM : M = mkX O N K T B R S H Z)  : CT l G yX5_minds cX5_minds 7 (some .int) 2 [.ref (ad 0), .int v, .int i, .int x, .int y] 54 ad (shX G ad) M (PI (fun r u => r = mndR N S v i x y ∧ u = (mkX O (mndO N S v i x y) K T B R S H Z))) := by
  refine CT.of (own := RX5) rfl rfl (le_b rfl) fun p e s m args below meth c A C0 hr => ?_
  refine AW.lo (ls2 := [(0, _), (1, _), (2, _), (3, _), (4, _)]) rfl ?_
  subst hM
  have lp : ∀ (n : Nat) (k : Nat) (xk : Int32) (N1 : WM), ix y - k < n → (k ≤ ix y) → (xk = nI k) → ((isSh v ∧ isTl N x ∧ (0 ≤ y ∧ y ≤ 8) ∧ x + y ≤ N 0 8)) → (¬ S (2 * ix v) 0 = -1) → (S (2 * ix v) 0 = 0) → (((0 ≤ i ∧ i ≤ S (2 * ix v) 1) ∧ i + y ≤ S (2 * ix v) 1)) → (N1 = mndN N (S (2 * ix v + 1)) (ix x) (ix i) k) → AW p l e (rmk 2) s m args below meth c G A 54 ad (shX G ad) 7 0 0 (MQ below (CQ G 54 ad (shX G ad) A (PI (fun r u => r = mndR N S v i x y ∧ u = (mkX O (mndO N S v i x y) K T B R S H Z)))) args s 0 0 A) 103 [(0, .ref (ad 0)), (1, .int v), (2, .int i), (3, .int x), (4, .int y), (5, .ref (ad (39 + 2 * (ix v)))), (6, .int xk)] [] (mkX O N1 K T B R S H Z) := by
    intro n
    induction n with
    | zero =>
      intro k xk N1 hn
      exact absurd hn (Nat.not_lt_zero _)
    | succ n ih =>
      intro k xk N1 hn hk hxk hc hmis hso hci hm
      have hv := (isTl_in w).mp hc.2.1
      have hx : IX x (ix x) 8 := IX.v (vp_le hv w.2.1)
      have hv4 := sh_in hc.1
      have hj : ix v < 4 := vp_lt hv4
      have hs0 := fun N2 : WM => mkX_S0 (O := O) (N := N2) (K := K) (T := T) (B := B) (R := R) (S := S) (H := H) (Z := Z) hj
      have hs1 := fun N2 : WM => mkX_S1 (O := O) (N := N2) (K := K) (T := T) (B := B) (R := R) (S := S) (H := H) (Z := Z) hj
      have hx31 := ix_lt x
      have hy8 : ix y ≤ 8 := by
        have := vp_lt (in_of (n := 8) (by decide) hc.2.2.1)
        omega
      have ey : y = nI (ix y) := (IX.v (in_of (n := 8) (by decide) hc.2.2.1)).eq (by decide)
      have ex : x = nI (ix x) := hx.eq (by decide)
      have hxy : ix x + ix y ≤ nT := by
        have q := hc.2.2.2
        rw [w.1, ey, ex, nI_add] at q
        exact leN q (by have := hx.lt; omega) (by have := w.2.1; omega)
      have hn8 := w.2.1
      have hcn2 := hcn hj
      have eci : vp_in i (cn + 1) := by
        have q := hci.1
        rw [hcn2] at q
        exact in_of (by omega) q
      have ei : i = nI (ix i) := (IX.v eci).eq (by omega)
      have hicn : ix i ≤ cn := by have := vp_lt eci; omega
      have hiy : ix i + ix y ≤ cn := by
        have q := hci.2
        rw [hcn2, ey, ei, nI_add] at q
        exact leN q (by omega) (by omega)
      refine a_iload C0 6 dX5_minds_103 rfl ?_
      refine a_iload C0 4 dX5_minds_105 rfl ?_
      refine a_icmp_ge C0 141 dX5_minds_107 rfl (fun h107 => ?_) (fun h107 => ?_)
      · refine a_iload C0 4 dX5_minds_141 rfl ?_
        refine a_iret C0 hr dX5_minds_143 ?_
        have e : k = ix y := Nat.le_antisymm hk (i_geY hxk (by omega) h107)
        subst e
        exact rd_ (by unfold mndR; rw [if_pos hc, if_neg hmis, if_pos hso, if_pos hci]) (by unfold mndO; rw [if_pos hc, if_neg hmis, if_pos hso, if_pos hci, hm])
      · have hlt : k < ix y := i_ltY hxk (by omega) h107
        have hxh : IX (x + xk) (ix x + k) 8 := IX.eqn (by rw [hxk, ← nI_add, ← ex]) (by omega) (by decide)
        have hxi : IX (i + xk) (ix i + k) 40 := IX.eqn (by rw [hxk, ← nI_add, ← ei]) (by omega) (by decide)
        refine a_aload_n C0 0 dX5_minds_110 rfl rfl ?_
        refine g_X5_10 C0 (lt_b rfl) rfl rfl dX5_minds_111 ?_
        refine g_X5_114 C0 (lt_b rfl) rfl rfl dX5_minds_114 ?_
        refine a_iload_n C0 3 dX5_minds_117 rfl rfl ?_
        refine a_iload C0 6 dX5_minds_118 rfl ?_
        refine a_iadd C0 dX5_minds_120 ?_
        refine a_aload C0 5 dX5_minds_121 rfl ?_
        refine g_X5_217 C0 (by omega) (shX_se hj _) rfl dX5_minds_123 ?_
        refine a_iload_n C0 2 dX5_minds_126 rfl rfl ?_
        refine a_iload C0 6 dX5_minds_127 rfl ?_
        refine a_iadd C0 dX5_minds_129 ?_
        refine a_iald C0 _ (by omega) (shX_si hj _) hxi.1 hxi.2 dX5_minds_130 ?_
        refine a_callS _ 1 C0 EM.z (c_X5_heldHeat l G) u_c_X5_heldHeat u_m_X5_250 u_st_X5_heldHeat u_in_X5 hy_X5_heldHeat.2 (hRk rfl) rfl rfl (le_b rfl) dX5_minds_131 (k_ro EM.z ?_)
        refine a_iast C0 _ (lt_b rfl) (fun _ => rfl) hxh.1 hxh.2 dX5_minds_134 ?_
        rw [hs1]
        refine AW.cg (M := (mkX O (up2 N1 5 (ix x + k) (held (S (2 * ix v + 1) (ix i + k)))) K T B R S H Z)) (fun c hc => mkX_Nu (q := 5) (by decide) c hc) ?_
        refine a_iinc (ls2 := [(6, _), (0, _), (1, _), (2, _), (3, _), (4, _), (5, _)]) C0 6 1 dX5_minds_135 rfl rfl (lt_b rfl) rfl ?_
        refine a_goto C0 103 dX5_minds_138 rfl ?_
        refine AW.sub (ls2 := [(0, _), (1, _), (2, _), (3, _), (4, _), (5, _), (6, _)]) [1, 2, 3, 4, 5, 6, 0] rfl ?_
        exact ih (k + 1) _ _ (by omega) hlt (by rw [hxk, nI_1]) hc hmis hso hci (by rw [hm]; rfl)
  refine a_iload_n C0 1 dX5_minds_0 rfl rfl ?_
  refine a_callS _ 1 C0 EM.z (c_X5_isSheet l G) u_c_X5_isSheet u_m_X5_205 u_st_X5_isSheet u_in_X5 hy_X5_isSheet.2 (hRk rfl) rfl rfl (le_b rfl) dX5_minds_1 (k_ro EM.z ?_)
  refine a_if_eqb C0 40 dX5_minds_4 rfl (fun h4 => ?_) (fun h4 => ?_)
  · refine a_iconst C0 (-1) dX5_minds_40 rfl ?_
    refine a_iret C0 hr dX5_minds_41 ?_
    have hc : ¬ (isSh v ∧ isTl N x ∧ (0 ≤ y ∧ y ≤ 8) ∧ x + y ≤ N 0 8) := fun q => by
      first
        | exact h4 q.1
        | exact h12 q.2.1
        | exact h23 q.2.2.1
        | exact h37 q.2.2.2
    exact rd_ (by unfold mndR; rw [if_neg hc]) (by unfold mndO; rw [if_neg hc])
  · refine a_aload_n C0 0 dX5_minds_7 rfl rfl ?_
    refine a_iload_n C0 3 dX5_minds_8 rfl rfl ?_
    refine a_callV _ 1 C0 EM.refl (c_X5_isTale l G rfl) u_c_X5_isTale u_m_X5_108 u_im_X5_isTale u_se_X5_isTale u_in_X5 hy_X5_isTale rfl (lt_b rfl) rfl (hRk rfl) rfl rfl (le_b rfl) dX5_minds_9 (k_ro EM.refl ?_)
    refine a_if_eqb C0 40 dX5_minds_12 rfl (fun h12 => ?_) (fun h12 => ?_)
    · refine a_iconst C0 (-1) dX5_minds_40 rfl ?_
      refine a_iret C0 hr dX5_minds_41 ?_
      have hc : ¬ (isSh v ∧ isTl N x ∧ (0 ≤ y ∧ y ≤ 8) ∧ x + y ≤ N 0 8) := fun q => by
        first
          | exact h4 q.1
          | exact h12 q.2.1
          | exact h23 q.2.2.1
          | exact h37 q.2.2.2
      exact rd_ (by unfold mndR; rw [if_neg hc]) (by unfold mndO; rw [if_neg hc])
    · refine a_iload C0 4 dX5_minds_15 rfl ?_
      refine a_iconst C0 0 dX5_minds_17 rfl ?_
      refine a_bipush C0 8 dX5_minds_18 rfl ?_
      refine a_callS _ 3 C0 EM.z (c_X5_isWithin l G) u_c_X5_isWithin u_m_X5_55 u_st_X5_isWithin u_in_X5 hy_X5_isWithin.2 (hRk rfl) rfl rfl (le_b rfl) dX5_minds_20 (k_ro EM.z ?_)
      refine a_if_eqb C0 40 dX5_minds_23 rfl (fun h23 => ?_) (fun h23 => ?_)
      · refine a_iconst C0 (-1) dX5_minds_40 rfl ?_
        refine a_iret C0 hr dX5_minds_41 ?_
        have hc : ¬ (isSh v ∧ isTl N x ∧ (0 ≤ y ∧ y ≤ 8) ∧ x + y ≤ N 0 8) := fun q => by
          first
            | exact h4 q.1
            | exact h12 q.2.1
            | exact h23 q.2.2.1
            | exact h37 q.2.2.2
        exact rd_ (by unfold mndR; rw [if_neg hc]) (by unfold mndO; rw [if_neg hc])
      · refine a_iload_n C0 3 dX5_minds_26 rfl rfl ?_
        refine a_iload C0 4 dX5_minds_27 rfl ?_
        refine a_iadd C0 dX5_minds_29 ?_
        refine a_aload_n C0 0 dX5_minds_30 rfl rfl ?_
        refine g_X5_10 C0 (lt_b rfl) rfl rfl dX5_minds_31 ?_
        refine g_X5_84 C0 (lt_b rfl) rfl rfl dX5_minds_34 ?_
        refine a_icmp_le C0 42 dX5_minds_37 rfl (fun h37 => ?_) (fun h37 => ?_)
        · have hc : (isSh v ∧ isTl N x ∧ (0 ≤ y ∧ y ≤ 8) ∧ x + y ≤ N 0 8) := ⟨h4, h12, h23, h37⟩
          have hv4 := sh_in h4
          have hj : ix v < 4 := vp_lt hv4
          have hs0 := mkX_S0 (O := O) (N := N) (K := K) (T := T) (B := B) (R := R) (S := S) (H := H) (Z := Z) hj
          refine a_aload_n C0 0 dX5_minds_42 rfl rfl ?_
          refine g_X5_36 C0 (lt_b rfl) rfl rfl dX5_minds_43 ?_
          refine a_iload_n C0 1 dX5_minds_46 rfl rfl ?_
          refine a_aald (t0 := 3) C0 (ix v) (39 + 2 * (ix v)) rfl rfl (lt_b rfl) rfl hv4 rfl (if_pos hj) dX5_minds_47 ?_
          refine a_astore (ls2 := [(5, _), (0, _), (1, _), (2, _), (3, _), (4, _)]) C0 dX5_minds_48 (lt_b rfl) rfl ?_
          refine a_aload C0 0 dX5_minds_50 rfl ?_
          refine a_callV _ 0 C0 (em_XSj hj) (c_X2_isMissing l G (ad := fun k => ad (39 + 2 * ix v + k))) u_c_X2_isMissing u_m_X5_208 u_im_X2_isMissing u_se_X2_isMissing u_in_X2 hy_X2_isMissing rfl (by omega) (shX_se hj _) (hRk rfl) rfl rfl (le_b rfl) dX5_minds_52 (k_ro (em_XSj hj) ?_)
          refine a_if_eqb C0 61 dX5_minds_55 rfl (fun h55 => ?_) (fun h55 => ?_)
          · have hmis : ¬ S (2 * ix v) 0 = -1 := h55
            refine a_aload C0 0 dX5_minds_61 rfl ?_
            refine g_X5_247 C0 (by omega) (shX_se hj _) rfl dX5_minds_63 ?_
            refine a_if_eq C0 72 dX5_minds_66 rfl (fun h66 => ?_) (fun h66 => ?_)
            · have hso : S (2 * ix v) 0 = 0 := by
                rw [← hs0]
                exact h66
              refine a_iload_n C0 3 dX5_minds_72 rfl rfl ?_
              refine a_iconst C0 0 dX5_minds_73 rfl ?_
              refine a_aload C0 0 dX5_minds_74 rfl ?_
              refine g_X5_216 C0 (by omega) (shX_se hj _) rfl dX5_minds_76 ?_
              refine a_callS _ 3 C0 EM.z (c_X5_isWithin l G) u_c_X5_isWithin u_m_X5_55 u_st_X5_isWithin u_in_X5 hy_X5_isWithin.2 (hRk rfl) rfl rfl (le_b rfl) dX5_minds_79 (k_ro EM.z ?_)
              refine a_if_eqb C0 97 dX5_minds_82 rfl (fun h82 => ?_) (fun h82 => ?_)
              · refine a_bipush C0 (-12) dX5_minds_97 rfl ?_
                refine a_iret C0 hr dX5_minds_99 ?_
                have hci : ¬ ((0 ≤ i ∧ i ≤ S (2 * ix v) 1) ∧ i + y ≤ S (2 * ix v) 1) := fun q => by
                  first
                    | exact h82 q.1
                    | (rw [hs0] at h82; exact h82 q.1)
                    | (rw [hs0] at h94; exact h94 q.2)
                exact rd_ (by unfold mndR; rw [if_pos hc, if_neg hmis, if_pos hso, if_neg hci]) (by unfold mndO; rw [if_pos hc, if_neg hmis, if_pos hso, if_neg hci])
              · rw [hs0] at h82
                refine a_iload_n C0 3 dX5_minds_85 rfl rfl ?_
                refine a_iload C0 5 dX5_minds_86 rfl ?_
                refine a_iadd C0 dX5_minds_88 ?_
                refine a_aload C0 0 dX5_minds_89 rfl ?_
                refine g_X5_216 C0 (by omega) (shX_se hj _) rfl dX5_minds_91 ?_
                refine a_icmp_le C0 100 dX5_minds_94 rfl (fun h94 => ?_) (fun h94 => ?_)
                · rw [hs0] at h94
                  refine a_iconst C0 0 dX5_minds_100 rfl ?_
                  refine a_istore (ls2 := [(6, _), (5, _), (0, _), (1, _), (2, _), (3, _), (4, _)]) C0 dX5_minds_101 (lt_b rfl) rfl ?_
                  refine AW.sub (ls2 := [(0, _), (1, _), (2, _), (3, _), (4, _), (5, _), (6, _)]) [2, 3, 4, 5, 6, 1, 0] rfl ?_
                  exact lp (ix y + 1) 0 _ _ (by omega) (Nat.zero_le _) rfl hc hmis hso ⟨h82, h94⟩ rfl
                · refine a_bipush C0 (-12) dX5_minds_97 rfl ?_
                  refine a_iret C0 hr dX5_minds_99 ?_
                  have hci : ¬ ((0 ≤ i ∧ i ≤ S (2 * ix v) 1) ∧ i + y ≤ S (2 * ix v) 1) := fun q => by
                    first
                      | exact h82 q.1
                      | (rw [hs0] at h82; exact h82 q.1)
                      | (rw [hs0] at h94; exact h94 q.2)
                  exact rd_ (by unfold mndR; rw [if_pos hc, if_neg hmis, if_pos hso, if_neg hci]) (by unfold mndO; rw [if_pos hc, if_neg hmis, if_pos hso, if_neg hci])
            · refine a_bipush C0 (-13) dX5_minds_69 rfl ?_
              refine a_iret C0 hr dX5_minds_71 ?_
              have hso : ¬ S (2 * ix v) 0 = 0 := by
                rw [← hs0]
                exact h66
              exact rd_ (by unfold mndR; rw [if_pos hc, if_neg hmis, if_neg hso]) (by unfold mndO; rw [if_pos hc, if_neg hmis, if_neg hso])
          · refine a_bipush C0 (-11) dX5_minds_58 rfl ?_
            refine a_iret C0 hr dX5_minds_60 ?_
            have hmis : S (2 * ix v) 0 = -1 := h55
            exact rd_ (by unfold mndR; rw [if_pos hc, if_pos hmis]) (by unfold mndO; rw [if_pos hc, if_pos hmis])
        · refine a_iconst C0 (-1) dX5_minds_40 rfl ?_
          refine a_iret C0 hr dX5_minds_41 ?_
          have hc : ¬ (isSh v ∧ isTl N x ∧ (0 ≤ y ∧ y ≤ 8) ∧ x + y ≤ N 0 8) := fun q => by
            first
              | exact h4 q.1
              | exact h12 q.2.1
              | exact h23 q.2.2.1
              | exact h37 q.2.2.2
          exact rd_ (by unfold mndR; rw [if_neg hc]) (by unfold mndO; rw [if_neg hc])
def hldW (S : WM) (i : Nat) : Int32 := if S (2 * i) 0 = -1 then 0 else 2
def sleR (N : WM) (v k x : Int32) : Int32 := if isSh v then (if k = 0 ∧ isTl N x then 1 else if k = 1 ∧ isSh x then 1 else if k = 2 then 1 else -1) else -1
def sleH (N S H : WM) (v k x : Int32) : WM := if isSh v then (if k = 0 ∧ isTl N x then setH H (ix v) (up2 (up2 (atH H (ix v)) 0 0 1) 0 1 x) else if k = 1 ∧ isSh x then setH H (ix v) (up2 (up2 (up2 (atH H (ix v)) 0 0 (hldW S (ix x))) 0 1 (S (2 * ix x) 1)) 0 2 (S (2 * ix x) 0)) else if k = 2 then setH H (ix v) (up2 (atH H (ix v)) 0 0 0) else H) else H

set_option maxRecDepth 100000 in
set_option maxHeartbeats 4000000 in
theorem c_X5_shelf (l : Launch) (G : GE) {ad : Nat → Nat} {M : WM} {O : Nat → Int32} {N K T B R S H Z : WM} {v k x : Int32} (hM : M = mkX O N K T B R S H Z)  : CT l G yX5_shelf cX5_shelf 4 (some .int) 2 [.ref (ad 0), .int v, .int k, .int x] 54 ad (shX G ad) M (PI (fun r u => r = sleR N v k x ∧ u = (mkX O N K T B R S (sleH N S H v k x) Z))) := by
  refine CT.of (own := RX5) rfl rfl (le_b rfl) fun p e s m args below meth c A C0 hr => ?_
  refine AW.lo (ls2 := [(0, _), (1, _), (2, _), (3, _)]) rfl ?_
  subst hM
  refine a_iload_n C0 1 dX5_shelf_0 rfl rfl ?_
  refine a_callS _ 1 C0 EM.z (c_X5_isShelf l G) u_c_X5_isShelf u_m_X5_262 u_st_X5_isShelf u_in_X5 hy_X5_isShelf.2 (hRk rfl) rfl rfl (le_b rfl) dX5_shelf_1 (k_ro EM.z ?_)
  refine a_if_neb C0 9 dX5_shelf_4 rfl (fun h4 => ?_) (fun h4 => ?_)
  · have hv4 := sh_in h4
    have hj : ix v < 4 := vp_lt hv4
    refine a_iload_n C0 2 dX5_shelf_9 rfl rfl ?_
    refine a_if_ne C0 33 dX5_shelf_10 rfl (fun h10 => ?_) (fun h10 => ?_)
    · refine a_iload_n C0 2 dX5_shelf_33 rfl rfl ?_
      refine a_iconst C0 1 dX5_shelf_34 rfl ?_
      refine a_icmp_ne C0 62 dX5_shelf_35 rfl (fun h35 => ?_) (fun h35 => ?_)
      · refine a_iload_n C0 2 dX5_shelf_62 rfl rfl ?_
        refine a_iconst C0 2 dX5_shelf_63 rfl ?_
        refine a_icmp_ne C0 78 dX5_shelf_64 rfl (fun h64 => ?_) (fun h64 => ?_)
        · refine a_iconst C0 (-1) dX5_shelf_78 rfl ?_
          refine a_iret C0 hr dX5_shelf_79 ?_
          have c0 : ¬ (k = 0 ∧ isTl N x) := fun q => by
            first
              | exact h10 q.1
              | exact h18 q.2
          have c1 : ¬ (k = 1 ∧ isSh x) := fun q => by
            first
              | exact h35 q.1
              | exact h42 q.2
          exact rd_ (by unfold sleR; rw [if_pos h4, if_neg c0, if_neg c1, if_neg h64]) (by unfold sleH; rw [if_pos h4, if_neg c0, if_neg c1, if_neg h64])
        · refine a_aload_n C0 0 dX5_shelf_67 rfl rfl ?_
          refine g_X5_43 C0 (lt_b rfl) rfl rfl dX5_shelf_68 ?_
          refine a_iload_n C0 1 dX5_shelf_71 rfl rfl ?_
          refine a_aald (t0 := 4) C0 (ix v) (48 + (ix v)) rfl rfl (lt_b rfl) rfl hv4 rfl (if_pos hj) dX5_shelf_72 ?_
          refine a_callV _ 0 C0 (em_XHj hj) (c_X3_holdNothing l G (ad := fun k => ad (48 + ix v + k))) u_c_X3_holdNothing u_m_X5_272 u_im_X3_holdNothing u_se_X3_holdNothing u_in_X3 hy_X3_holdNothing rfl (show 48 + ix v < 54 by omega) (shX_sv hj _) (hRk rfl) rfl rfl (le_b rfl) dX5_shelf_73 (k_vo ?_)
          refine a_iconst C0 1 dX5_shelf_76 rfl ?_
          refine a_iret C0 hr dX5_shelf_77 ?_
          have c0 : ¬ (k = 0 ∧ isTl N x) := fun q => absurd (h64.symm.trans q.1) (by decide)
          have c1 : ¬ (k = 1 ∧ isSh x) := fun q => absurd (h64.symm.trans q.1) (by decide)
          exact rd_ (by unfold sleR; rw [if_pos h4, if_neg c0, if_neg c1, if_pos h64]) (by unfold sleH; rw [if_pos h4, if_neg c0, if_neg c1, if_pos h64])
      · refine a_iload_n C0 3 dX5_shelf_38 rfl rfl ?_
        refine a_callS _ 1 C0 EM.z (c_X5_isSheet l G) u_c_X5_isSheet u_m_X5_205 u_st_X5_isSheet u_in_X5 hy_X5_isSheet.2 (hRk rfl) rfl rfl (le_b rfl) dX5_shelf_39 (k_ro EM.z ?_)
        refine a_if_eqb C0 62 dX5_shelf_42 rfl (fun h42 => ?_) (fun h42 => ?_)
        · refine a_iload_n C0 2 dX5_shelf_62 rfl rfl ?_
          refine a_iconst C0 2 dX5_shelf_63 rfl ?_
          refine a_icmp_ne C0 78 dX5_shelf_64 rfl (fun h64 => ?_) (fun h64 => ?_)
          · refine a_iconst C0 (-1) dX5_shelf_78 rfl ?_
            refine a_iret C0 hr dX5_shelf_79 ?_
            have c0 : ¬ (k = 0 ∧ isTl N x) := fun q => by
              first
                | exact h10 q.1
                | exact h18 q.2
            have c1 : ¬ (k = 1 ∧ isSh x) := fun q => by
              first
                | exact h35 q.1
                | exact h42 q.2
            exact rd_ (by unfold sleR; rw [if_pos h4, if_neg c0, if_neg c1, if_neg h64]) (by unfold sleH; rw [if_pos h4, if_neg c0, if_neg c1, if_neg h64])
          · refine a_aload_n C0 0 dX5_shelf_67 rfl rfl ?_
            refine g_X5_43 C0 (lt_b rfl) rfl rfl dX5_shelf_68 ?_
            refine a_iload_n C0 1 dX5_shelf_71 rfl rfl ?_
            refine a_aald (t0 := 4) C0 (ix v) (48 + (ix v)) rfl rfl (lt_b rfl) rfl hv4 rfl (if_pos hj) dX5_shelf_72 ?_
            refine a_callV _ 0 C0 (em_XHj hj) (c_X3_holdNothing l G (ad := fun k => ad (48 + ix v + k))) u_c_X3_holdNothing u_m_X5_272 u_im_X3_holdNothing u_se_X3_holdNothing u_in_X3 hy_X3_holdNothing rfl (show 48 + ix v < 54 by omega) (shX_sv hj _) (hRk rfl) rfl rfl (le_b rfl) dX5_shelf_73 (k_vo ?_)
            refine a_iconst C0 1 dX5_shelf_76 rfl ?_
            refine a_iret C0 hr dX5_shelf_77 ?_
            have c0 : ¬ (k = 0 ∧ isTl N x) := fun q => absurd (h64.symm.trans q.1) (by decide)
            have c1 : ¬ (k = 1 ∧ isSh x) := fun q => absurd (h64.symm.trans q.1) (by decide)
            exact rd_ (by unfold sleR; rw [if_pos h4, if_neg c0, if_neg c1, if_pos h64]) (by unfold sleH; rw [if_pos h4, if_neg c0, if_neg c1, if_pos h64])
        · have hx4 := sh_in h42
          have hj2 : ix x < 4 := vp_lt hx4
          refine a_aload_n C0 0 dX5_shelf_45 rfl rfl ?_
          refine g_X5_43 C0 (lt_b rfl) rfl rfl dX5_shelf_46 ?_
          refine a_iload_n C0 1 dX5_shelf_49 rfl rfl ?_
          refine a_aald (t0 := 4) C0 (ix v) (48 + (ix v)) rfl rfl (lt_b rfl) rfl hv4 rfl (if_pos hj) dX5_shelf_50 ?_
          refine a_aload_n C0 0 dX5_shelf_51 rfl rfl ?_
          refine g_X5_36 C0 (lt_b rfl) rfl rfl dX5_shelf_52 ?_
          refine a_iload_n C0 3 dX5_shelf_55 rfl rfl ?_
          refine a_aald (t0 := 3) C0 (ix x) (39 + 2 * (ix x)) rfl rfl (lt_b rfl) rfl hx4 rfl (if_pos hj2) dX5_shelf_56 ?_
          refine a_callV _ 1 C0 (em_XHSj hj hj2) (c_X3_holdRow l G (ad := fun k => ad (io2 (48 + ix v) 1 (39 + 2 * ix x) k))) u_c_X3_holdRow u_m_X5_268 u_im_X3_holdRow u_se_X3_holdRow u_in_X3 hy_X3_holdRow rfl (show 48 + ix v < 54 by omega) (shX_sv hj _) (hRk rfl) rfl rfl (le_b rfl) dX5_shelf_57 (k_vo ?_)
          refine a_iconst C0 1 dX5_shelf_60 rfl ?_
          refine a_iret C0 hr dX5_shelf_61 ?_
          have c0 : ¬ (k = 0 ∧ isTl N x) := fun q => absurd (h35.symm.trans q.1) (by decide)
          exact rd_ (by unfold sleR; rw [if_pos h4, if_neg c0, if_pos ⟨h35, h42⟩]) (by unfold sleH; rw [if_pos h4, if_neg c0, if_pos ⟨h35, h42⟩, setS_id hj2 rfl rfl]; rfl)
    · refine a_aload_n C0 0 dX5_shelf_13 rfl rfl ?_
      refine a_iload_n C0 3 dX5_shelf_14 rfl rfl ?_
      refine a_callV _ 1 C0 EM.refl (c_X5_isTale l G rfl) u_c_X5_isTale u_m_X5_108 u_im_X5_isTale u_se_X5_isTale u_in_X5 hy_X5_isTale rfl (lt_b rfl) rfl (hRk rfl) rfl rfl (le_b rfl) dX5_shelf_15 (k_ro EM.refl ?_)
      refine a_if_eqb C0 33 dX5_shelf_18 rfl (fun h18 => ?_) (fun h18 => ?_)
      · refine a_iload_n C0 2 dX5_shelf_33 rfl rfl ?_
        refine a_iconst C0 1 dX5_shelf_34 rfl ?_
        refine a_icmp_ne C0 62 dX5_shelf_35 rfl (fun h35 => ?_) (fun h35 => ?_)
        · refine a_iload_n C0 2 dX5_shelf_62 rfl rfl ?_
          refine a_iconst C0 2 dX5_shelf_63 rfl ?_
          refine a_icmp_ne C0 78 dX5_shelf_64 rfl (fun h64 => ?_) (fun h64 => ?_)
          · refine a_iconst C0 (-1) dX5_shelf_78 rfl ?_
            refine a_iret C0 hr dX5_shelf_79 ?_
            have c0 : ¬ (k = 0 ∧ isTl N x) := fun q => by
              first
                | exact h10 q.1
                | exact h18 q.2
            have c1 : ¬ (k = 1 ∧ isSh x) := fun q => by
              first
                | exact h35 q.1
                | exact h42 q.2
            exact rd_ (by unfold sleR; rw [if_pos h4, if_neg c0, if_neg c1, if_neg h64]) (by unfold sleH; rw [if_pos h4, if_neg c0, if_neg c1, if_neg h64])
          · refine a_aload_n C0 0 dX5_shelf_67 rfl rfl ?_
            refine g_X5_43 C0 (lt_b rfl) rfl rfl dX5_shelf_68 ?_
            refine a_iload_n C0 1 dX5_shelf_71 rfl rfl ?_
            refine a_aald (t0 := 4) C0 (ix v) (48 + (ix v)) rfl rfl (lt_b rfl) rfl hv4 rfl (if_pos hj) dX5_shelf_72 ?_
            refine a_callV _ 0 C0 (em_XHj hj) (c_X3_holdNothing l G (ad := fun k => ad (48 + ix v + k))) u_c_X3_holdNothing u_m_X5_272 u_im_X3_holdNothing u_se_X3_holdNothing u_in_X3 hy_X3_holdNothing rfl (show 48 + ix v < 54 by omega) (shX_sv hj _) (hRk rfl) rfl rfl (le_b rfl) dX5_shelf_73 (k_vo ?_)
            refine a_iconst C0 1 dX5_shelf_76 rfl ?_
            refine a_iret C0 hr dX5_shelf_77 ?_
            have c0 : ¬ (k = 0 ∧ isTl N x) := fun q => absurd (h64.symm.trans q.1) (by decide)
            have c1 : ¬ (k = 1 ∧ isSh x) := fun q => absurd (h64.symm.trans q.1) (by decide)
            exact rd_ (by unfold sleR; rw [if_pos h4, if_neg c0, if_neg c1, if_pos h64]) (by unfold sleH; rw [if_pos h4, if_neg c0, if_neg c1, if_pos h64])
        · refine a_iload_n C0 3 dX5_shelf_38 rfl rfl ?_
          refine a_callS _ 1 C0 EM.z (c_X5_isSheet l G) u_c_X5_isSheet u_m_X5_205 u_st_X5_isSheet u_in_X5 hy_X5_isSheet.2 (hRk rfl) rfl rfl (le_b rfl) dX5_shelf_39 (k_ro EM.z ?_)
          refine a_if_eqb C0 62 dX5_shelf_42 rfl (fun h42 => ?_) (fun h42 => ?_)
          · refine a_iload_n C0 2 dX5_shelf_62 rfl rfl ?_
            refine a_iconst C0 2 dX5_shelf_63 rfl ?_
            refine a_icmp_ne C0 78 dX5_shelf_64 rfl (fun h64 => ?_) (fun h64 => ?_)
            · refine a_iconst C0 (-1) dX5_shelf_78 rfl ?_
              refine a_iret C0 hr dX5_shelf_79 ?_
              have c0 : ¬ (k = 0 ∧ isTl N x) := fun q => by
                first
                  | exact h10 q.1
                  | exact h18 q.2
              have c1 : ¬ (k = 1 ∧ isSh x) := fun q => by
                first
                  | exact h35 q.1
                  | exact h42 q.2
              exact rd_ (by unfold sleR; rw [if_pos h4, if_neg c0, if_neg c1, if_neg h64]) (by unfold sleH; rw [if_pos h4, if_neg c0, if_neg c1, if_neg h64])
            · refine a_aload_n C0 0 dX5_shelf_67 rfl rfl ?_
              refine g_X5_43 C0 (lt_b rfl) rfl rfl dX5_shelf_68 ?_
              refine a_iload_n C0 1 dX5_shelf_71 rfl rfl ?_
              refine a_aald (t0 := 4) C0 (ix v) (48 + (ix v)) rfl rfl (lt_b rfl) rfl hv4 rfl (if_pos hj) dX5_shelf_72 ?_
              refine a_callV _ 0 C0 (em_XHj hj) (c_X3_holdNothing l G (ad := fun k => ad (48 + ix v + k))) u_c_X3_holdNothing u_m_X5_272 u_im_X3_holdNothing u_se_X3_holdNothing u_in_X3 hy_X3_holdNothing rfl (show 48 + ix v < 54 by omega) (shX_sv hj _) (hRk rfl) rfl rfl (le_b rfl) dX5_shelf_73 (k_vo ?_)
              refine a_iconst C0 1 dX5_shelf_76 rfl ?_
              refine a_iret C0 hr dX5_shelf_77 ?_
              have c0 : ¬ (k = 0 ∧ isTl N x) := fun q => absurd (h64.symm.trans q.1) (by decide)
              have c1 : ¬ (k = 1 ∧ isSh x) := fun q => absurd (h64.symm.trans q.1) (by decide)
              exact rd_ (by unfold sleR; rw [if_pos h4, if_neg c0, if_neg c1, if_pos h64]) (by unfold sleH; rw [if_pos h4, if_neg c0, if_neg c1, if_pos h64])
          · have hx4 := sh_in h42
            have hj2 : ix x < 4 := vp_lt hx4
            refine a_aload_n C0 0 dX5_shelf_45 rfl rfl ?_
            refine g_X5_43 C0 (lt_b rfl) rfl rfl dX5_shelf_46 ?_
            refine a_iload_n C0 1 dX5_shelf_49 rfl rfl ?_
            refine a_aald (t0 := 4) C0 (ix v) (48 + (ix v)) rfl rfl (lt_b rfl) rfl hv4 rfl (if_pos hj) dX5_shelf_50 ?_
            refine a_aload_n C0 0 dX5_shelf_51 rfl rfl ?_
            refine g_X5_36 C0 (lt_b rfl) rfl rfl dX5_shelf_52 ?_
            refine a_iload_n C0 3 dX5_shelf_55 rfl rfl ?_
            refine a_aald (t0 := 3) C0 (ix x) (39 + 2 * (ix x)) rfl rfl (lt_b rfl) rfl hx4 rfl (if_pos hj2) dX5_shelf_56 ?_
            refine a_callV _ 1 C0 (em_XHSj hj hj2) (c_X3_holdRow l G (ad := fun k => ad (io2 (48 + ix v) 1 (39 + 2 * ix x) k))) u_c_X3_holdRow u_m_X5_268 u_im_X3_holdRow u_se_X3_holdRow u_in_X3 hy_X3_holdRow rfl (show 48 + ix v < 54 by omega) (shX_sv hj _) (hRk rfl) rfl rfl (le_b rfl) dX5_shelf_57 (k_vo ?_)
            refine a_iconst C0 1 dX5_shelf_60 rfl ?_
            refine a_iret C0 hr dX5_shelf_61 ?_
            have c0 : ¬ (k = 0 ∧ isTl N x) := fun q => absurd (h35.symm.trans q.1) (by decide)
            exact rd_ (by unfold sleR; rw [if_pos h4, if_neg c0, if_pos ⟨h35, h42⟩]) (by unfold sleH; rw [if_pos h4, if_neg c0, if_pos ⟨h35, h42⟩, setS_id hj2 rfl rfl]; rfl)
      · refine a_aload_n C0 0 dX5_shelf_21 rfl rfl ?_
        refine g_X5_43 C0 (lt_b rfl) rfl rfl dX5_shelf_22 ?_
        refine a_iload_n C0 1 dX5_shelf_25 rfl rfl ?_
        refine a_aald (t0 := 4) C0 (ix v) (48 + (ix v)) rfl rfl (lt_b rfl) rfl hv4 rfl (if_pos hj) dX5_shelf_26 ?_
        refine a_iload_n C0 3 dX5_shelf_27 rfl rfl ?_
        refine a_callV _ 1 C0 (em_XHj hj) (c_X3_holdTale l G (ad := fun k => ad (48 + ix v + k))) u_c_X3_holdTale u_m_X5_265 u_im_X3_holdTale u_se_X3_holdTale u_in_X3 hy_X3_holdTale rfl (show 48 + ix v < 54 by omega) (shX_sv hj _) (hRk rfl) rfl rfl (le_b rfl) dX5_shelf_28 (k_vo ?_)
        refine a_iconst C0 1 dX5_shelf_31 rfl ?_
        refine a_iret C0 hr dX5_shelf_32 ?_
        exact rd_ (by unfold sleR; rw [if_pos h4, if_pos ⟨h10, h18⟩]) (by unfold sleH; rw [if_pos h4, if_pos ⟨h10, h18⟩])
  · refine a_iconst C0 (-1) dX5_shelf_7 rfl ?_
    refine a_iret C0 hr dX5_shelf_8 ?_
    exact rd_ (by unfold sleR; rw [if_neg h4]) (by unfold sleH; rw [if_neg h4])
abbrev hdT (N H : WM) (j : Nat) : Prop := H j 0 = 1 ∧ isTl N (H j 1)

set_option maxRecDepth 100000 in
set_option maxHeartbeats 4000000 in
theorem c_X5_holdsTale (l : Launch) (G : GE) {ad : Nat → Nat} {M : WM} {O : Nat → Int32} {N K T B R S H Z : WM} {j : Nat} (hj : j < 4) (hM : M = mkX O N K T B R S H Z)  : CT l G yX5_holdsTale cX5_holdsTale 2 (some .boolean) 2 [.ref (ad 0), .ref (ad (48 + j))] 54 ad (shX G ad) M (PI (fun r u => r = bI (hdT N H j) ∧ u = M)) := by
  refine CT.of (own := RX5) rfl rfl (le_b rfl) fun p e s m args below meth c A C0 hr => ?_
  refine AW.lo (ls2 := [(0, _), (1, _)]) rfl ?_
  subst hM
  refine a_aload_n C0 1 dX5_holdsTale_0 rfl rfl ?_
  have hs0 := mkX_Hj (O := O) (N := N) (K := K) (T := T) (B := B) (R := R) (S := S) (H := H) (Z := Z) hj
  refine g_X5_275 C0 (by omega) (shX_sv hj _) rfl dX5_holdsTale_1 ?_
  refine a_iconst C0 1 dX5_holdsTale_4 rfl ?_
  refine a_icmp_ne C0 23 dX5_holdsTale_5 rfl (fun h5 => ?_) (fun h5 => ?_)
  · refine a_iconst C0 0 dX5_holdsTale_23 rfl ?_
    refine a_zret C0 hr rfl dX5_holdsTale_24 ?_
    refine rt_ ?_
    first
      | exact (bI_t ⟨hs0 ▸ h5, hs0 ▸ h16⟩).symm
      | exact (bI_f fun q => h5 (hs0 ▸ q.1)).symm
      | exact (bI_f fun q => h16 (hs0 ▸ q.2)).symm
  · refine a_aload_n C0 0 dX5_holdsTale_8 rfl rfl ?_
    refine a_aload_n C0 1 dX5_holdsTale_9 rfl rfl ?_
    refine g_X5_279 C0 (by omega) (shX_sv hj _) rfl dX5_holdsTale_10 ?_
    refine a_callV _ 1 C0 EM.refl (c_X5_isTale l G rfl) u_c_X5_isTale u_m_X5_108 u_im_X5_isTale u_se_X5_isTale u_in_X5 hy_X5_isTale rfl (lt_b rfl) rfl (hRk rfl) rfl rfl (le_b rfl) dX5_holdsTale_13 (k_ro EM.refl ?_)
    refine a_if_eqb C0 23 dX5_holdsTale_16 rfl (fun h16 => ?_) (fun h16 => ?_)
    · refine a_iconst C0 0 dX5_holdsTale_23 rfl ?_
      refine a_zret C0 hr rfl dX5_holdsTale_24 ?_
      refine rt_ ?_
      first
        | exact (bI_t ⟨hs0 ▸ h5, hs0 ▸ h16⟩).symm
        | exact (bI_f fun q => h5 (hs0 ▸ q.1)).symm
        | exact (bI_f fun q => h16 (hs0 ▸ q.2)).symm
    · refine a_iconst C0 1 dX5_holdsTale_19 rfl ?_
      refine a_goto C0 24 dX5_holdsTale_20 rfl ?_
      refine a_zret C0 hr rfl dX5_holdsTale_24 ?_
      refine rt_ ?_
      first
        | exact (bI_t ⟨hs0 ▸ h5, hs0 ▸ h16⟩).symm
        | exact (bI_f fun q => h5 (hs0 ▸ q.1)).symm
        | exact (bI_f fun q => h16 (hs0 ▸ q.2)).symm
def udS : Nat → Int32 → Int32 → Bool
  | 0, _, _ => false
  | f + 1, a, b => if 0 ≤ a ∧ a ≤ 5 then (if a = b then true else udS f ((st_vals 2).getD (ix a) 0) b) else false

set_option maxRecDepth 100000 in
set_option maxHeartbeats 4000000 in
theorem c_X5_isOrIsUnder (l : Launch) (G : GE) {ad : Nat → Nat} {M : WM} {a b : Int32} : CT l G yX5_isOrIsUnder cX5_isOrIsUnder 4 (some .boolean) 2 [.int a, .int b] 0 ad sh0 M (PI (fun r u => r = bI (udS 6 a b = true) ∧ u = M)) := by
  refine CT.of (own := RX5) rfl rfl (le_b rfl) fun p e s m args below meth c A C0 hr => ?_
  refine AW.lo (ls2 := [(0, _), (1, _)]) rfl ?_
  have lp : ∀ (n : Nat) (i : Nat) (xi g : Int32), 6 - i < n → (i ≤ 6) → (xi = nI i) → (udS (6 - i) g b = udS 6 a b) → AW p l e (rmk 2) s m args below meth c G A 0 ad sh0 4 0 0 (MQ below (CQ G 0 ad sh0 A (PI (fun r u => r = bI (udS 6 a b = true) ∧ u = M))) args s 0 0 A) 4 [(0, .int a), (1, .int b), (2, .int g), (3, .int xi)] [] M := by
    intro n
    induction n with
    | zero =>
      intro i xi g hn
      exact absurd hn (Nat.not_lt_zero _)
    | succ n ih =>
      intro i xi g hn hi hxi hm
      refine a_iload_n C0 3 dX5_isOrIsUnder_4 rfl rfl ?_
      refine a_bipush C0 6 dX5_isOrIsUnder_5 rfl ?_
      refine a_icmp_ge C0 36 dX5_isOrIsUnder_7 rfl (fun h7 => ?_) (fun h7 => ?_)
      · refine a_iconst C0 0 dX5_isOrIsUnder_36 rfl ?_
        refine a_zret C0 hr rfl dX5_isOrIsUnder_37 ?_
        refine rt_ ((bI_f ?_).symm)
        rw [← hm]
        first
          | (have e : i = 6 := Nat.le_antisymm hi (i_ge (T := 6) hxi rfl (by omega) (by omega) h7)
             rw [e]
             exact Bool.false_ne_true)
          | (rw [show 6 - i = (6 - (i + 1)) + 1 by omega]
             intro hh
             rw [show udS (6 - (i + 1) + 1) g b = false from if_neg h14] at hh
             cases hh)
      · have hlt : i < 6 := i_lt (T := 6) hxi rfl (by omega) (by omega) h7
        refine a_iload_n C0 2 dX5_isOrIsUnder_10 rfl rfl ?_
        refine a_callS _ 1 C0 EM.z (c_X5_isKind l G) u_c_X5_isKind u_m_X5_94 u_st_X5_isKind u_in_X5 hy_X5_isKind.2 (hRk rfl) rfl rfl (le_b rfl) dX5_isOrIsUnder_11 (k_ro EM.z ?_)
        refine a_if_eqb C0 36 dX5_isOrIsUnder_14 rfl (fun h14 => ?_) (fun h14 => ?_)
        · refine a_iconst C0 0 dX5_isOrIsUnder_36 rfl ?_
          refine a_zret C0 hr rfl dX5_isOrIsUnder_37 ?_
          refine rt_ ((bI_f ?_).symm)
          rw [← hm]
          first
            | (have e : i = 6 := Nat.le_antisymm hi (i_ge (T := 6) hxi rfl (by omega) (by omega) h7)
               rw [e]
               exact Bool.false_ne_true)
            | (rw [show 6 - i = (6 - (i + 1)) + 1 by omega]
               intro hh
               rw [show udS (6 - (i + 1) + 1) g b = false from if_neg h14] at hh
               cases hh)
        · refine a_iload_n C0 2 dX5_isOrIsUnder_17 rfl rfl ?_
          refine a_iload_n C0 1 dX5_isOrIsUnder_18 rfl rfl ?_
          refine a_icmp_ne C0 24 dX5_isOrIsUnder_19 rfl (fun h19 => ?_) (fun h19 => ?_)
          · refine a_gets C0 2 (lt_b rfl) u_f_X5_300 dX5_isOrIsUnder_24 C0.2.2.2.2.2.2.2.2.2.1 ?_
            refine a_iload_n C0 2 dX5_isOrIsUnder_27 rfl rfl ?_
            refine a_ti C0 2 _ (lt_b rfl) (in_of (n := 5) (by decide) h14) rfl dX5_isOrIsUnder_28 ?_
            refine a_istore_n (ls2 := [(2, _), (0, _), (1, _), (3, _)]) C0 dX5_isOrIsUnder_29 rfl (lt_b rfl) rfl ?_
            refine a_iinc (ls2 := [(3, _), (2, _), (0, _), (1, _)]) C0 3 1 dX5_isOrIsUnder_30 rfl rfl (lt_b rfl) rfl ?_
            refine a_goto C0 4 dX5_isOrIsUnder_33 rfl ?_
            refine AW.sub (ls2 := [(0, _), (1, _), (2, _), (3, _)]) [2, 3, 1, 0] rfl ?_
            exact ih (i + 1) _ _ (by omega) hlt (by rw [hxi, nI_1]) (by
              rw [← hm, show 6 - i = (6 - (i + 1)) + 1 by omega]
              show _ = if 0 ≤ g ∧ g ≤ 5 then (if g = b then true else _) else false
              rw [if_pos h14, if_neg h19])
          · refine a_iconst C0 1 dX5_isOrIsUnder_22 rfl ?_
            refine a_zret C0 hr rfl dX5_isOrIsUnder_23 ?_
            refine rt_ ((bI_t ?_).symm)
            rw [← hm, show 6 - i = (6 - (i + 1)) + 1 by omega]
            show (if 0 ≤ g ∧ g ≤ 5 then (if g = b then true else _) else false) = true
            rw [if_pos h14, if_pos h19]
  refine a_iload_n C0 0 dX5_isOrIsUnder_0 rfl rfl ?_
  refine a_istore_n (ls2 := [(2, _), (0, _), (1, _)]) C0 dX5_isOrIsUnder_1 rfl (lt_b rfl) rfl ?_
  refine a_iconst C0 0 dX5_isOrIsUnder_2 rfl ?_
  refine a_istore_n (ls2 := [(3, _), (2, _), (0, _), (1, _)]) C0 dX5_isOrIsUnder_3 rfl (lt_b rfl) rfl ?_
  refine AW.sub (ls2 := [(0, _), (1, _), (2, _), (3, _)]) [2, 3, 1, 0] rfl ?_
  exact lp 7 0 _ _ (by omega) (Nat.zero_le _) rfl rfl
def takR (N H : WM) (v y : Int32) : Int32 := if isSh v ∧ ((10 ≤ y ∧ y ≤ 13) ∨ (0 ≤ y ∧ y ≤ 5)) then (if H (ix v) 0 = 2 then (if (10 ≤ y ∧ y ≤ 13) ∧ H (ix v) 2 = y - 10 then H (ix v) 1 else -13) else if hdT N H (ix v) then (if ¬ (10 ≤ y ∧ y ≤ 13) ∧ udS 6 (N 4 (ix (H (ix v) 1))) y = true then H (ix v) 1 else -13) else -11) else -1

set_option maxRecDepth 100000 in
set_option maxHeartbeats 4000000 in
theorem c_X5_taken (l : Launch) (G : GE) {ad : Nat → Nat} {M : WM} {O : Nat → Int32} {N K T B R S H Z : WM} {v y : Int32} {nT : Nat} (w : WFP N nT) (hM : M = mkX O N K T B R S H Z)  : CT l G yX5_taken cX5_taken 5 (some .int) 3 [.ref (ad 0), .int v, .int y] 54 ad (shX G ad) M (PI (fun r u => r = takR N H v y ∧ u = M)) := by
  refine CT.of (own := RX5) rfl rfl (le_b rfl) fun p e s m args below meth c A C0 hr => ?_
  refine AW.lo (ls2 := [(0, _), (1, _), (2, _)]) rfl ?_
  subst hM
  refine a_iload_n C0 2 dX5_taken_0 rfl rfl ?_
  refine a_bipush C0 10 dX5_taken_1 rfl ?_
  refine a_bipush C0 13 dX5_taken_3 rfl ?_
  refine a_callS _ 3 C0 EM.z (c_X5_isWithin l G) u_c_X5_isWithin u_m_X5_55 u_st_X5_isWithin u_in_X5 hy_X5_isWithin.2 (hRk rfl) rfl rfl (le_b rfl) dX5_taken_5 (k_ro EM.z ?_)
  refine a_istore_n (ls2 := [(3, _), (0, _), (1, _), (2, _)]) C0 dX5_taken_8 rfl (lt_b rfl) rfl ?_
  refine a_iload_n C0 2 dX5_taken_9 rfl rfl ?_
  refine a_callS _ 1 C0 EM.z (c_X5_isShelf l G) u_c_X5_isShelf u_m_X5_262 u_st_X5_isShelf u_in_X5 hy_X5_isShelf.2 (hRk rfl) rfl rfl (le_b rfl) dX5_taken_10 (k_ro EM.z ?_)
  refine a_if_eqb C0 27 dX5_taken_13 rfl (fun h13 => ?_) (fun h13 => ?_)
  · refine a_iconst C0 (-1) dX5_taken_27 rfl ?_
    refine a_iret C0 hr dX5_taken_28 ?_
    have hc : ¬ (isSh v ∧ ((10 ≤ y ∧ y ≤ 13) ∨ (0 ≤ y ∧ y ≤ 5))) := fun q => by
      first
        | exact h13 q.1
        | exact q.2.elim h17 h24
    exact rt_ (by unfold takR; rw [if_neg hc])
  · refine a_iload_n C0 0 dX5_taken_16 rfl rfl ?_
    refine a_if_neb C0 29 dX5_taken_17 rfl (fun h17 => ?_) (fun h17 => ?_)
    · have hc : isSh v ∧ ((10 ≤ y ∧ y ≤ 13) ∨ (0 ≤ y ∧ y ≤ 5)) := ⟨h13, by
        first
          | exact Or.inl h17
          | exact Or.inr h24⟩
      have hv4 := sh_in h13
      have hj : ix v < 4 := vp_lt hv4
      have hs0 := mkX_Hj (O := O) (N := N) (K := K) (T := T) (B := B) (R := R) (S := S) (H := H) (Z := Z) hj
      refine a_aload_n C0 1 dX5_taken_29 rfl rfl ?_
      refine g_X5_43 C0 (lt_b rfl) rfl rfl dX5_taken_30 ?_
      refine a_iload_n C0 2 dX5_taken_33 rfl rfl ?_
      refine a_aald (t0 := 4) C0 (ix v) (48 + (ix v)) rfl rfl (lt_b rfl) rfl hv4 rfl (if_pos hj) dX5_taken_34 ?_
      refine a_astore (ls2 := [(4, _), (3, _), (0, _), (1, _), (2, _)]) C0 dX5_taken_35 (lt_b rfl) rfl ?_
      refine a_aload C0 0 dX5_taken_37 rfl ?_
      refine g_X5_275 C0 (by omega) (shX_sv hj _) rfl dX5_taken_39 ?_
      refine a_iconst C0 2 dX5_taken_42 rfl ?_
      refine a_icmp_ne C0 73 dX5_taken_43 rfl (fun h43 => ?_) (fun h43 => ?_)
      · have hh2 : ¬ H (ix v) 0 = 2 := by
          rw [← hs0]
          exact h43
        refine a_aload_n C0 2 dX5_taken_73 rfl rfl ?_
        refine a_aload C0 0 dX5_taken_74 rfl ?_
        refine a_callV _ 1 C0 EM.refl (c_X5_holdsTale l G hj rfl) u_c_X5_holdsTale u_m_X5_282 u_im_X5_holdsTale u_se_X5_holdsTale u_in_X5 hy_X5_holdsTale rfl (lt_b rfl) rfl (hRk rfl) rfl rfl (le_b rfl) dX5_taken_76 (k_ro EM.refl ?_)
        refine a_if_neb C0 85 dX5_taken_79 rfl (fun h79 => ?_) (fun h79 => ?_)
        · have hv := (isTl_in w).mp h79.2
          have hx : IX (mkX O N K T B R S H Z (48 + ix v) 1) (ix (H (ix v) 1)) 8 := by
            rw [hs0]
            exact IX.v (vp_le hv w.2.1)
          refine a_iload_n C0 1 dX5_taken_85 rfl rfl ?_
          refine a_if_neb C0 117 dX5_taken_86 rfl (fun h86 => ?_) (fun h86 => ?_)
          · refine a_bipush C0 (-13) dX5_taken_117 rfl ?_
            refine a_iret C0 hr dX5_taken_119 ?_
            first
              | (have c : ¬ (10 ≤ y ∧ y ≤ 13) ∧ udS 6 (N 4 (ix (H (ix v) 1))) y = true := ⟨h86, h106⟩
                 exact rt_ (by unfold takR; rw [if_pos hc, if_neg hh2, if_pos h79, if_pos c, hs0]))
              | (have c : ¬ (¬ (10 ≤ y ∧ y ≤ 13) ∧ udS 6 (N 4 (ix (H (ix v) 1))) y = true) := fun q => by
                   first
                     | exact q.1 h86
                     | exact h106 q.2
                 exact rt_ (by unfold takR; rw [if_pos hc, if_neg hh2, if_pos h79, if_neg c]))
          · refine a_aload_n C0 2 dX5_taken_89 rfl rfl ?_
            refine g_X5_10 C0 (lt_b rfl) rfl rfl dX5_taken_90 ?_
            refine g_X5_111 C0 (lt_b rfl) rfl rfl dX5_taken_93 ?_
            refine a_aload C0 0 dX5_taken_96 rfl ?_
            refine g_X5_279 C0 (by omega) (shX_sv hj _) rfl dX5_taken_98 ?_
            refine a_iald C0 _ (lt_b rfl) rfl hx.1 hx.2 dX5_taken_101 ?_
            refine a_iload_n C0 4 dX5_taken_102 rfl rfl ?_
            refine a_callS _ 2 C0 EM.z (c_X5_isOrIsUnder l G) u_c_X5_isOrIsUnder u_m_X5_286 u_st_X5_isOrIsUnder u_in_X5 hy_X5_isOrIsUnder.2 (hRk rfl) rfl rfl (le_b rfl) dX5_taken_103 (k_ro EM.z ?_)
            refine a_if_eqb C0 117 dX5_taken_106 rfl (fun h106 => ?_) (fun h106 => ?_)
            · refine a_bipush C0 (-13) dX5_taken_117 rfl ?_
              refine a_iret C0 hr dX5_taken_119 ?_
              first
                | (have c : ¬ (10 ≤ y ∧ y ≤ 13) ∧ udS 6 (N 4 (ix (H (ix v) 1))) y = true := ⟨h86, h106⟩
                   exact rt_ (by unfold takR; rw [if_pos hc, if_neg hh2, if_pos h79, if_pos c, hs0]))
                | (have c : ¬ (¬ (10 ≤ y ∧ y ≤ 13) ∧ udS 6 (N 4 (ix (H (ix v) 1))) y = true) := fun q => by
                     first
                       | exact q.1 h86
                       | exact h106 q.2
                   exact rt_ (by unfold takR; rw [if_pos hc, if_neg hh2, if_pos h79, if_neg c]))
            · refine a_aload C0 0 dX5_taken_109 rfl ?_
              refine g_X5_279 C0 (by omega) (shX_sv hj _) rfl dX5_taken_111 ?_
              refine a_goto C0 119 dX5_taken_114 rfl ?_
              refine a_iret C0 hr dX5_taken_119 ?_
              first
                | (have c : ¬ (10 ≤ y ∧ y ≤ 13) ∧ udS 6 (N 4 (ix (H (ix v) 1))) y = true := ⟨h86, h106⟩
                   exact rt_ (by unfold takR; rw [if_pos hc, if_neg hh2, if_pos h79, if_pos c, hs0]))
                | (have c : ¬ (¬ (10 ≤ y ∧ y ≤ 13) ∧ udS 6 (N 4 (ix (H (ix v) 1))) y = true) := fun q => by
                     first
                       | exact q.1 h86
                       | exact h106 q.2
                   exact rt_ (by unfold takR; rw [if_pos hc, if_neg hh2, if_pos h79, if_neg c]))
        · refine a_bipush C0 (-11) dX5_taken_82 rfl ?_
          refine a_iret C0 hr dX5_taken_84 ?_
          exact rt_ (by unfold takR; rw [if_pos hc, if_neg hh2, if_neg h79])
      · have hh2 : H (ix v) 0 = 2 := by
          rw [← hs0]
          exact h43
        refine a_iload_n C0 1 dX5_taken_46 rfl rfl ?_
        refine a_if_eqb C0 70 dX5_taken_47 rfl (fun h47 => ?_) (fun h47 => ?_)
        · refine a_bipush C0 (-13) dX5_taken_70 rfl ?_
          refine a_iret C0 hr dX5_taken_72 ?_
          first
            | (have c : (10 ≤ y ∧ y ≤ 13) ∧ H (ix v) 2 = y - 10 := ⟨h47, by rw [← hs0]; exact h59⟩
               exact rt_ (by unfold takR; rw [if_pos hc, if_pos hh2, if_pos c, hs0]))
            | (have c : ¬ ((10 ≤ y ∧ y ≤ 13) ∧ H (ix v) 2 = y - 10) := fun q => by
                 first
                   | exact h47 q.1
                   | (rw [← hs0] at q; exact h59 q.2)
               exact rt_ (by unfold takR; rw [if_pos hc, if_pos hh2, if_neg c]))
        · refine a_aload C0 0 dX5_taken_50 rfl ?_
          refine g_X5_278 C0 (by omega) (shX_sv hj _) rfl dX5_taken_52 ?_
          refine a_iload_n C0 4 dX5_taken_55 rfl rfl ?_
          refine a_bipush C0 10 dX5_taken_56 rfl ?_
          refine a_isub C0 dX5_taken_58 ?_
          refine a_icmp_ne C0 70 dX5_taken_59 rfl (fun h59 => ?_) (fun h59 => ?_)
          · refine a_bipush C0 (-13) dX5_taken_70 rfl ?_
            refine a_iret C0 hr dX5_taken_72 ?_
            first
              | (have c : (10 ≤ y ∧ y ≤ 13) ∧ H (ix v) 2 = y - 10 := ⟨h47, by rw [← hs0]; exact h59⟩
                 exact rt_ (by unfold takR; rw [if_pos hc, if_pos hh2, if_pos c, hs0]))
              | (have c : ¬ ((10 ≤ y ∧ y ≤ 13) ∧ H (ix v) 2 = y - 10) := fun q => by
                   first
                     | exact h47 q.1
                     | (rw [← hs0] at q; exact h59 q.2)
                 exact rt_ (by unfold takR; rw [if_pos hc, if_pos hh2, if_neg c]))
          · refine a_aload C0 0 dX5_taken_62 rfl ?_
            refine g_X5_279 C0 (by omega) (shX_sv hj _) rfl dX5_taken_64 ?_
            refine a_goto C0 72 dX5_taken_67 rfl ?_
            refine a_iret C0 hr dX5_taken_72 ?_
            first
              | (have c : (10 ≤ y ∧ y ≤ 13) ∧ H (ix v) 2 = y - 10 := ⟨h47, by rw [← hs0]; exact h59⟩
                 exact rt_ (by unfold takR; rw [if_pos hc, if_pos hh2, if_pos c, hs0]))
              | (have c : ¬ ((10 ≤ y ∧ y ≤ 13) ∧ H (ix v) 2 = y - 10) := fun q => by
                   first
                     | exact h47 q.1
                     | (rw [← hs0] at q; exact h59 q.2)
                 exact rt_ (by unfold takR; rw [if_pos hc, if_pos hh2, if_neg c]))
    · refine a_iload_n C0 3 dX5_taken_20 rfl rfl ?_
      refine a_callS _ 1 C0 EM.z (c_X5_isKind l G) u_c_X5_isKind u_m_X5_94 u_st_X5_isKind u_in_X5 hy_X5_isKind.2 (hRk rfl) rfl rfl (le_b rfl) dX5_taken_21 (k_ro EM.z ?_)
      refine a_if_neb C0 29 dX5_taken_24 rfl (fun h24 => ?_) (fun h24 => ?_)
      · have hc : isSh v ∧ ((10 ≤ y ∧ y ≤ 13) ∨ (0 ≤ y ∧ y ≤ 5)) := ⟨h13, by
          first
            | exact Or.inl h17
            | exact Or.inr h24⟩
        have hv4 := sh_in h13
        have hj : ix v < 4 := vp_lt hv4
        have hs0 := mkX_Hj (O := O) (N := N) (K := K) (T := T) (B := B) (R := R) (S := S) (H := H) (Z := Z) hj
        refine a_aload_n C0 1 dX5_taken_29 rfl rfl ?_
        refine g_X5_43 C0 (lt_b rfl) rfl rfl dX5_taken_30 ?_
        refine a_iload_n C0 2 dX5_taken_33 rfl rfl ?_
        refine a_aald (t0 := 4) C0 (ix v) (48 + (ix v)) rfl rfl (lt_b rfl) rfl hv4 rfl (if_pos hj) dX5_taken_34 ?_
        refine a_astore (ls2 := [(4, _), (3, _), (0, _), (1, _), (2, _)]) C0 dX5_taken_35 (lt_b rfl) rfl ?_
        refine a_aload C0 0 dX5_taken_37 rfl ?_
        refine g_X5_275 C0 (by omega) (shX_sv hj _) rfl dX5_taken_39 ?_
        refine a_iconst C0 2 dX5_taken_42 rfl ?_
        refine a_icmp_ne C0 73 dX5_taken_43 rfl (fun h43 => ?_) (fun h43 => ?_)
        · have hh2 : ¬ H (ix v) 0 = 2 := by
            rw [← hs0]
            exact h43
          refine a_aload_n C0 2 dX5_taken_73 rfl rfl ?_
          refine a_aload C0 0 dX5_taken_74 rfl ?_
          refine a_callV _ 1 C0 EM.refl (c_X5_holdsTale l G hj rfl) u_c_X5_holdsTale u_m_X5_282 u_im_X5_holdsTale u_se_X5_holdsTale u_in_X5 hy_X5_holdsTale rfl (lt_b rfl) rfl (hRk rfl) rfl rfl (le_b rfl) dX5_taken_76 (k_ro EM.refl ?_)
          refine a_if_neb C0 85 dX5_taken_79 rfl (fun h79 => ?_) (fun h79 => ?_)
          · have hv := (isTl_in w).mp h79.2
            have hx : IX (mkX O N K T B R S H Z (48 + ix v) 1) (ix (H (ix v) 1)) 8 := by
              rw [hs0]
              exact IX.v (vp_le hv w.2.1)
            refine a_iload_n C0 1 dX5_taken_85 rfl rfl ?_
            refine a_if_neb C0 117 dX5_taken_86 rfl (fun h86 => ?_) (fun h86 => ?_)
            · refine a_bipush C0 (-13) dX5_taken_117 rfl ?_
              refine a_iret C0 hr dX5_taken_119 ?_
              first
                | (have c : ¬ (10 ≤ y ∧ y ≤ 13) ∧ udS 6 (N 4 (ix (H (ix v) 1))) y = true := ⟨h86, h106⟩
                   exact rt_ (by unfold takR; rw [if_pos hc, if_neg hh2, if_pos h79, if_pos c, hs0]))
                | (have c : ¬ (¬ (10 ≤ y ∧ y ≤ 13) ∧ udS 6 (N 4 (ix (H (ix v) 1))) y = true) := fun q => by
                     first
                       | exact q.1 h86
                       | exact h106 q.2
                   exact rt_ (by unfold takR; rw [if_pos hc, if_neg hh2, if_pos h79, if_neg c]))
            · refine a_aload_n C0 2 dX5_taken_89 rfl rfl ?_
              refine g_X5_10 C0 (lt_b rfl) rfl rfl dX5_taken_90 ?_
              refine g_X5_111 C0 (lt_b rfl) rfl rfl dX5_taken_93 ?_
              refine a_aload C0 0 dX5_taken_96 rfl ?_
              refine g_X5_279 C0 (by omega) (shX_sv hj _) rfl dX5_taken_98 ?_
              refine a_iald C0 _ (lt_b rfl) rfl hx.1 hx.2 dX5_taken_101 ?_
              refine a_iload_n C0 4 dX5_taken_102 rfl rfl ?_
              refine a_callS _ 2 C0 EM.z (c_X5_isOrIsUnder l G) u_c_X5_isOrIsUnder u_m_X5_286 u_st_X5_isOrIsUnder u_in_X5 hy_X5_isOrIsUnder.2 (hRk rfl) rfl rfl (le_b rfl) dX5_taken_103 (k_ro EM.z ?_)
              refine a_if_eqb C0 117 dX5_taken_106 rfl (fun h106 => ?_) (fun h106 => ?_)
              · refine a_bipush C0 (-13) dX5_taken_117 rfl ?_
                refine a_iret C0 hr dX5_taken_119 ?_
                first
                  | (have c : ¬ (10 ≤ y ∧ y ≤ 13) ∧ udS 6 (N 4 (ix (H (ix v) 1))) y = true := ⟨h86, h106⟩
                     exact rt_ (by unfold takR; rw [if_pos hc, if_neg hh2, if_pos h79, if_pos c, hs0]))
                  | (have c : ¬ (¬ (10 ≤ y ∧ y ≤ 13) ∧ udS 6 (N 4 (ix (H (ix v) 1))) y = true) := fun q => by
                       first
                         | exact q.1 h86
                         | exact h106 q.2
                     exact rt_ (by unfold takR; rw [if_pos hc, if_neg hh2, if_pos h79, if_neg c]))
              · refine a_aload C0 0 dX5_taken_109 rfl ?_
                refine g_X5_279 C0 (by omega) (shX_sv hj _) rfl dX5_taken_111 ?_
                refine a_goto C0 119 dX5_taken_114 rfl ?_
                refine a_iret C0 hr dX5_taken_119 ?_
                first
                  | (have c : ¬ (10 ≤ y ∧ y ≤ 13) ∧ udS 6 (N 4 (ix (H (ix v) 1))) y = true := ⟨h86, h106⟩
                     exact rt_ (by unfold takR; rw [if_pos hc, if_neg hh2, if_pos h79, if_pos c, hs0]))
                  | (have c : ¬ (¬ (10 ≤ y ∧ y ≤ 13) ∧ udS 6 (N 4 (ix (H (ix v) 1))) y = true) := fun q => by
                       first
                         | exact q.1 h86
                         | exact h106 q.2
                     exact rt_ (by unfold takR; rw [if_pos hc, if_neg hh2, if_pos h79, if_neg c]))
          · refine a_bipush C0 (-11) dX5_taken_82 rfl ?_
            refine a_iret C0 hr dX5_taken_84 ?_
            exact rt_ (by unfold takR; rw [if_pos hc, if_neg hh2, if_neg h79])
        · have hh2 : H (ix v) 0 = 2 := by
            rw [← hs0]
            exact h43
          refine a_iload_n C0 1 dX5_taken_46 rfl rfl ?_
          refine a_if_eqb C0 70 dX5_taken_47 rfl (fun h47 => ?_) (fun h47 => ?_)
          · refine a_bipush C0 (-13) dX5_taken_70 rfl ?_
            refine a_iret C0 hr dX5_taken_72 ?_
            first
              | (have c : (10 ≤ y ∧ y ≤ 13) ∧ H (ix v) 2 = y - 10 := ⟨h47, by rw [← hs0]; exact h59⟩
                 exact rt_ (by unfold takR; rw [if_pos hc, if_pos hh2, if_pos c, hs0]))
              | (have c : ¬ ((10 ≤ y ∧ y ≤ 13) ∧ H (ix v) 2 = y - 10) := fun q => by
                   first
                     | exact h47 q.1
                     | (rw [← hs0] at q; exact h59 q.2)
                 exact rt_ (by unfold takR; rw [if_pos hc, if_pos hh2, if_neg c]))
          · refine a_aload C0 0 dX5_taken_50 rfl ?_
            refine g_X5_278 C0 (by omega) (shX_sv hj _) rfl dX5_taken_52 ?_
            refine a_iload_n C0 4 dX5_taken_55 rfl rfl ?_
            refine a_bipush C0 10 dX5_taken_56 rfl ?_
            refine a_isub C0 dX5_taken_58 ?_
            refine a_icmp_ne C0 70 dX5_taken_59 rfl (fun h59 => ?_) (fun h59 => ?_)
            · refine a_bipush C0 (-13) dX5_taken_70 rfl ?_
              refine a_iret C0 hr dX5_taken_72 ?_
              first
                | (have c : (10 ≤ y ∧ y ≤ 13) ∧ H (ix v) 2 = y - 10 := ⟨h47, by rw [← hs0]; exact h59⟩
                   exact rt_ (by unfold takR; rw [if_pos hc, if_pos hh2, if_pos c, hs0]))
                | (have c : ¬ ((10 ≤ y ∧ y ≤ 13) ∧ H (ix v) 2 = y - 10) := fun q => by
                     first
                       | exact h47 q.1
                       | (rw [← hs0] at q; exact h59 q.2)
                   exact rt_ (by unfold takR; rw [if_pos hc, if_pos hh2, if_neg c]))
            · refine a_aload C0 0 dX5_taken_62 rfl ?_
              refine g_X5_279 C0 (by omega) (shX_sv hj _) rfl dX5_taken_64 ?_
              refine a_goto C0 72 dX5_taken_67 rfl ?_
              refine a_iret C0 hr dX5_taken_72 ?_
              first
                | (have c : (10 ≤ y ∧ y ≤ 13) ∧ H (ix v) 2 = y - 10 := ⟨h47, by rw [← hs0]; exact h59⟩
                   exact rt_ (by unfold takR; rw [if_pos hc, if_pos hh2, if_pos c, hs0]))
                | (have c : ¬ ((10 ≤ y ∧ y ≤ 13) ∧ H (ix v) 2 = y - 10) := fun q => by
                     first
                       | exact h47 q.1
                       | (rw [← hs0] at q; exact h59 q.2)
                   exact rt_ (by unfold takR; rw [if_pos hc, if_pos hh2, if_neg c]))
      · refine a_iconst C0 (-1) dX5_taken_27 rfl ?_
        refine a_iret C0 hr dX5_taken_28 ?_
        have hc : ¬ (isSh v ∧ ((10 ≤ y ∧ y ≤ 13) ∨ (0 ≤ y ∧ y ≤ 5))) := fun q => by
          first
            | exact h13 q.1
            | exact q.2.elim h17 h24
        exact rt_ (by unfold takR; rw [if_neg hc])
def actR (N H Z : WM) (v a x : Int32) : Int32 := if (isSh v ∧ (0 ≤ a ∧ a ≤ 3) ∧ hdT N H (ix v)) then (perfD (up2 Z 0 1 0) (N 4 (ix (H (ix v) 1))) (H (ix v) 1) (N 6 (ix (H (ix v) 1))) a x).1 else 0
def actZ (N H Z : WM) (v a x : Int32) : WM := if (isSh v ∧ (0 ≤ a ∧ a ≤ 3) ∧ hdT N H (ix v)) then (perfD (up2 Z 0 1 0) (N 4 (ix (H (ix v) 1))) (H (ix v) 1) (N 6 (ix (H (ix v) 1))) a x).2 else up2 Z 0 1 0

set_option maxRecDepth 100000 in
set_option maxHeartbeats 4000000 in
theorem c_X5_act (l : Launch) (G : GE) {ad : Nat → Nat} {M : WM} {O : Nat → Int32} {N K T B R S H Z : WM} {v a x : Int32} {nT : Nat} (w : WFP N nT) (hk6 : ∀ t, t < nT → ∃ j, j < 6 ∧ N 4 t = nI j) (hM : M = mkX O N K T B R S H Z)  : CT l G yX5_act cX5_act 5 (some .int) 38 [.ref (ad 0), .int v, .int a, .int x] 54 ad (shX G ad) M (PI (fun r u => r = actR N H Z v a x ∧ u = (mkX O N K T B R S H (actZ N H Z v a x)))) := by
  refine CT.of (own := RX5) rfl rfl (le_b rfl) fun p e s m args below meth c A C0 hr => ?_
  refine AW.lo (ls2 := [(0, _), (1, _), (2, _), (3, _)]) rfl ?_
  subst hM
  refine a_aload_n C0 0 dX5_act_0 rfl rfl ?_
  refine g_X5_51 C0 (lt_b rfl) rfl rfl dX5_act_1 ?_
  refine a_callV _ 0 C0 em_XZ (c_X0_forget l G (ad := fun k => ad (52 + k))) u_c_X0_forget u_m_X5_289 u_im_X0_forget u_se_X0_forget u_in_X0 hy_X0_forget rfl (lt_b rfl) rfl (hRk rfl) rfl rfl (le_b rfl) dX5_act_4 (k_vo ?_)
  refine a_iload_n C0 1 dX5_act_7 rfl rfl ?_
  refine a_callS _ 1 C0 EM.z (c_X5_isShelf l G) u_c_X5_isShelf u_m_X5_262 u_st_X5_isShelf u_in_X5 hy_X5_isShelf.2 (hRk rfl) rfl rfl (le_b rfl) dX5_act_8 (k_ro EM.z ?_)
  refine a_if_eqb C0 36 dX5_act_11 rfl (fun h11 => ?_) (fun h11 => ?_)
  · refine a_iconst C0 0 dX5_act_36 rfl ?_
    refine a_iret C0 hr dX5_act_37 ?_
    have hc : ¬ (isSh v ∧ (0 ≤ a ∧ a ≤ 3) ∧ hdT N H (ix v)) := fun q => by
      first
        | exact h11 q.1
        | exact h20 q.2.1
        | exact h33 q.2.2
    exact rd_ (by unfold actR; rw [if_neg hc]) (by unfold actZ; rw [if_neg hc])
  · refine a_iload_n C0 2 dX5_act_14 rfl rfl ?_
    refine a_iconst C0 0 dX5_act_15 rfl ?_
    refine a_iconst C0 3 dX5_act_16 rfl ?_
    refine a_callS _ 3 C0 EM.z (c_X5_isWithin l G) u_c_X5_isWithin u_m_X5_55 u_st_X5_isWithin u_in_X5 hy_X5_isWithin.2 (hRk rfl) rfl rfl (le_b rfl) dX5_act_17 (k_ro EM.z ?_)
    refine a_if_eqb C0 36 dX5_act_20 rfl (fun h20 => ?_) (fun h20 => ?_)
    · refine a_iconst C0 0 dX5_act_36 rfl ?_
      refine a_iret C0 hr dX5_act_37 ?_
      have hc : ¬ (isSh v ∧ (0 ≤ a ∧ a ≤ 3) ∧ hdT N H (ix v)) := fun q => by
        first
          | exact h11 q.1
          | exact h20 q.2.1
          | exact h33 q.2.2
      exact rd_ (by unfold actR; rw [if_neg hc]) (by unfold actZ; rw [if_neg hc])
    · have hv4 := sh_in h11
      have hj : ix v < 4 := vp_lt hv4
      have hs0 := mkX_Hj (O := O) (N := N) (K := K) (T := T) (B := B) (R := R) (S := S) (H := H) (Z := (up2 Z 0 1 0)) hj
      refine a_aload_n C0 0 dX5_act_23 rfl rfl ?_
      refine a_aload_n C0 0 dX5_act_24 rfl rfl ?_
      refine g_X5_43 C0 (lt_b rfl) rfl rfl dX5_act_25 ?_
      refine a_iload_n C0 1 dX5_act_28 rfl rfl ?_
      refine a_aald (t0 := 4) C0 (ix v) (48 + (ix v)) rfl rfl (lt_b rfl) rfl hv4 rfl (if_pos hj) dX5_act_29 ?_
      refine a_callV _ 1 C0 EM.refl (c_X5_holdsTale l G hj rfl) u_c_X5_holdsTale u_m_X5_282 u_im_X5_holdsTale u_se_X5_holdsTale u_in_X5 hy_X5_holdsTale rfl (lt_b rfl) rfl (hRk rfl) rfl rfl (le_b rfl) dX5_act_30 (k_ro EM.refl ?_)
      refine a_if_neb C0 38 dX5_act_33 rfl (fun h33 => ?_) (fun h33 => ?_)
      · have hc : (isSh v ∧ (0 ≤ a ∧ a ≤ 3) ∧ hdT N H (ix v)) := ⟨h11, h20, h33⟩
        have hv := (isTl_in w).mp h33.2
        have ht := vp_lt hv
        have hx : IX (mkX O N K T B R S H (up2 Z 0 1 0) (48 + ix v) 1) (ix (H (ix v) 1)) 8 := by
          rw [hs0]
          exact IX.v (vp_le hv w.2.1)
        refine a_aload_n C0 0 dX5_act_38 rfl rfl ?_
        refine g_X5_43 C0 (lt_b rfl) rfl rfl dX5_act_39 ?_
        refine a_iload_n C0 1 dX5_act_42 rfl rfl ?_
        refine a_aald (t0 := 4) C0 (ix v) (48 + (ix v)) rfl rfl (lt_b rfl) rfl hv4 rfl (if_pos hj) dX5_act_43 ?_
        refine g_X5_279 C0 (by omega) (shX_sv hj _) rfl dX5_act_44 ?_
        refine a_istore (ls2 := [(4, _), (0, _), (1, _), (2, _), (3, _)]) C0 dX5_act_47 (lt_b rfl) rfl ?_
        refine a_aload_n C0 1 dX5_act_49 rfl rfl ?_
        refine g_X5_51 C0 (lt_b rfl) rfl rfl dX5_act_50 ?_
        refine a_aload_n C0 1 dX5_act_53 rfl rfl ?_
        refine g_X5_10 C0 (lt_b rfl) rfl rfl dX5_act_54 ?_
        refine g_X5_111 C0 (lt_b rfl) rfl rfl dX5_act_57 ?_
        refine a_iload C0 0 dX5_act_60 rfl ?_
        refine a_iald C0 _ (lt_b rfl) rfl hx.1 hx.2 dX5_act_62 ?_
        refine a_iload C0 0 dX5_act_63 rfl ?_
        refine a_aload_n C0 1 dX5_act_65 rfl rfl ?_
        refine g_X5_10 C0 (lt_b rfl) rfl rfl dX5_act_66 ?_
        refine g_X5_117 C0 (lt_b rfl) rfl rfl dX5_act_69 ?_
        refine a_iload C0 0 dX5_act_72 rfl ?_
        refine a_iald C0 _ (lt_b rfl) rfl hx.1 hx.2 dX5_act_74 ?_
        refine a_iload_n C0 3 dX5_act_75 rfl rfl ?_
        refine a_iload_n C0 4 dX5_act_76 rfl rfl ?_
        refine a_callV _ 5 C0 em_XZ (c_X0_perform l G (hk6 _ ht) ⟨0, by decide, rfl⟩ (IX.v (in_of (n := 3) (by decide) h20)) (ad := fun k => ad (52 + k))) u_c_X0_perform u_m_X5_292 u_im_X0_perform u_se_X0_perform u_in_X0 hy_X0_perform rfl (lt_b rfl) rfl (hRk rfl) rfl rfl (le_b rfl) dX5_act_77 (k_de ?_)
        refine a_iret C0 hr dX5_act_80 ?_
        exact rd_ (by unfold actR; rw [if_pos hc, ← hs0]; rfl) (by unfold actZ; rw [if_pos hc, ← hs0]; rfl)
      · refine a_iconst C0 0 dX5_act_36 rfl ?_
        refine a_iret C0 hr dX5_act_37 ?_
        have hc : ¬ (isSh v ∧ (0 ≤ a ∧ a ≤ 3) ∧ hdT N H (ix v)) := fun q => by
          first
            | exact h11 q.1
            | exact h20 q.2.1
            | exact h33 q.2.2
        exact rd_ (by unfold actR; rw [if_neg hc]) (by unfold actZ; rw [if_neg hc])
