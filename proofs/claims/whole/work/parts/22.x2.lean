
theorem tr_ {v e : Int32} {O : Nat → Int32} {N K T B R S H Z : WM} (h : v = e) : PI (fun r u => r = e ∧ ∃ T2, u = mkX O N K T2 B R S H Z) (some (.int v)) (mkX O N K T B R S H Z) := ⟨v, rfl, h, T, rfl⟩
def huS : Nat → WM → Nat → Int32 → Nat → Int32
  | 0, _, _, _, _ => -3
  | f + 1, P, t, q, g => if P 7 t &&& q = q then nI g else huS f (minP P t) t q (g + 1)
def coS : Nat → WM → Nat → Nat → Int32
  | 0, _, _, _ => -3
  | f + 1, P, t, g => if P 5 t = 0 then nI g else coS f (minP P t) t (g + 1)
def hoS : Nat → WM → Nat → Int32 → Nat → Int32
  | 0, _, _, _, _ => -3
  | f + 1, P, t, a, g => if minP P t 6 t = a ∧ 0 < minP P t 5 t then nI g else hoS f (minP P t) t a (g + 1)
def bsS (g : Nat → Int32) : Nat → Int32 × Int32
  | 0 => (0, -1)
  | k + 1 => if (bsS g k).2 < g k then (nI k, g k) else bsS g k
def bxS (N : WM) (m0 : Int32) (g : Nat → Int32) : Nat → Int32 × Int32
  | 0 => (-3, m0)
  | k + 1 => if boxP N (nI k) then bxS N m0 g k else if (bxS N m0 g k).2 < g k then (nI k, g k) else bxS N m0 g k
def hfS (g : Nat → Int32) : Nat → Nat → Int32
  | 0, _ => -3
  | f + 1, h => if g h = -3 then hfS g f (h + 1) else nI h
def kiS (g : Nat → Int32) (v z : Int32) : Nat → Nat → Option Int32
  | 0, _ => none
  | f + 1, b => if bcS (nI b) = z ∧ v ≤ g b then some (nI b) else kiS g v z f (b + 1)
def koS (g : Nat → Int32) (v : Int32) : Nat → Nat → Int32
  | 0, _ => -3
  | f + 1, z => (kiS g v (nI z) 256 0).getD (koS g v f (z + 1))
def goS (it : Nat → Int32) (t : Nat) : Nat → Nat → WM → Bool
  | 0, _, _ => true
  | f + 1, i, P => if it i = -1 ∨ it i = minP P t 6 t then goS it t f (i + 1) (minP P t) else false
def ftS (g : Nat → Bool) : Nat → Int32 × Int32
  | 0 => (-3, 0)
  | k + 1 => if g (99 - k) = true then (nI (99 - k), (ftS g k).2 + 1) else ftS g k
def heaP (P : WM) (n : Nat) : Int32 := sumP (fun i => bcS (P 7 i)) n
def spS (N : WM) (n : Nat) (b0 : Int32) : Nat → Int32 × Int32
  | 0 => (N 0 10, 0)
  | k + 1 => (drawsP (up2 N 0 10 (spS N n b0 k).1) n 0 10, if b0 < heaP (drawsP (up2 N 0 10 (spS N n b0 k).1) n) n then (spS N n b0 k).2 + 1 else (spS N n b0 k).2)
def prR (R N : WM) (t : Nat) : Nat → WM
  | 0 => R
  | k + 1 => up2 (up2 (up2 (prR R N t k) k 0 (minsP (k + 1) N t 6 t)) k 1 (minsP (k + 1) N t 5 t)) k 2 (minsP (k + 1) N t 7 t)
def jgS (R : WM) (t : Nat) : Nat → Nat → WM → Int32
  | 0, _, _ => 0
  | f + 1, i, P => if R i 0 = minP P t 6 t ∧ R i 1 = minP P t 5 t ∧ R i 2 = minP P t 7 t then jgS R t f (i + 1) (minP P t) else nI i + 1
theorem WFP.fr {P : WM} {n h : Nat} {v : Int32} (w : WFP P n) (hv : vp_in v 8) : WFP (up2 P 2 h v) n := by
  refine ⟨w.1, w.2.1, fun k hk => ?_, w.2.2.2⟩
  show vp_in (if k = h then v else P 2 k) 8
  split
  · exact hv
  · exact w.2.2.1 k hk
theorem WFP.kd {P : WM} {n t : Nat} {v : Int32} (w : WFP P n) : WFP (up2 P 4 t v) n := ⟨w.1, w.2.1, w.2.2.1, w.2.2.2⟩
theorem WFP.bx {P : WM} {n : Nat} {v : Int32} (w : WFP P n) : WFP (up2 P 0 7 v) n := ⟨w.1, w.2.1, w.2.2.1, w.2.2.2⟩

set_option maxRecDepth 100000 in
set_option maxHeartbeats 4000000 in
theorem c_X5_startTrial (l : Launch) (G : GE) {ad : Nat → Nat} {M : WM} {O : Nat → Int32} {N K T B R S H Z : WM} (hM : M = mkX O N K T B R S H Z)  : CT l G yX5_startTrial cX5_startTrial 1 none 2 [.ref (ad 0)] 54 ad (shX G ad) M (PV (fun u => u = (mkX O N K N B R S H Z))) := by
  refine CT.of (own := RX5) rfl rfl (le_b rfl) fun p e s m args below meth c A C0 hr => ?_
  refine AW.lo (ls2 := [(0, _)]) rfl ?_
  subst hM
  refine a_aload_n C0 0 dX5_startTrial_0 rfl rfl ?_
  refine g_X5_19 C0 (lt_b rfl) rfl rfl dX5_startTrial_1 ?_
  refine a_aload_n C0 0 dX5_startTrial_4 rfl rfl ?_
  refine g_X5_10 C0 (lt_b rfl) rfl rfl dX5_startTrial_5 ?_
  refine a_callV _ 1 C0 em_XTN (c_X1_copyFrom l G (ad := fun k => ad (io2 17 8 1 k))) u_c_X1_copyFrom u_m_X5_77 u_im_X1_copyFrom u_se_X1_copyFrom u_in_X1 hy_X1_copyFrom rfl (lt_b rfl) rfl (hRk rfl) rfl rfl (le_b rfl) dX5_startTrial_8 (k_vo ?_)
  refine AW.cg (M := (mkX O N K N B R S H Z)) mkX_TN ?_
  refine a_vret C0 hr dX5_startTrial_11 ?_
  exact rv_ rfl
set_option maxRecDepth 100000 in
set_option maxHeartbeats 4000000 in
theorem c_X5_triedUntilHeard (l : Launch) (G : GE) {ad : Nat → Nat} {M : WM} {O : Nat → Int32} {N K T B R S H Z : WM} {x q y : Int32} {t nT mm : Nat} (hx : IX x t 8) (w0 : WFP T nT) (ht : t < nT) (hy : y = nI mm) (hm60 : mm ≤ 60) (hM : M = mkX O N K T B R S H Z)  : CT l G yX5_triedUntilHeard cX5_triedUntilHeard 5 (some .int) 4 [.ref (ad 0), .int x, .int q, .int y] 54 ad (shX G ad) M (PI (fun r u => r = huS (mm + 1) T t q 0 ∧ ∃ T2, u = mkX O N K T2 B R S H Z)) := by
  refine CT.of (own := RX5) rfl rfl (le_b rfl) fun p e s m args below meth c A C0 hr => ?_
  refine AW.lo (ls2 := [(0, _), (1, _), (2, _), (3, _)]) rfl ?_
  subst hM
  have lp : ∀ (n : Nat) (i : Nat) (xi : Int32) (T1 : WM), mm + 1 - i < n → (i ≤ mm + 1) → (xi = nI i) → (WFP T1 nT) → (huS (mm + 1 - i) T1 t q i = huS (mm + 1) T t q 0) → AW p l e (rmk 4) s m args below meth c G A 54 ad (shX G ad) 5 0 0 (MQ below (CQ G 54 ad (shX G ad) A (PI (fun r u => r = huS (mm + 1) T t q 0 ∧ ∃ T2, u = mkX O N K T2 B R S H Z))) args s 0 0 A) 3 [(0, .ref (ad 0)), (1, .int x), (2, .int q), (3, .int y), (4, .int xi)] [] (mkX O N K T1 B R S H Z) := by
    intro n
    induction n with
    | zero =>
      intro i xi T1 hn
      exact absurd hn (Nat.not_lt_zero _)
    | succ n ih =>
      intro i xi T1 hn hi hxi w1 hm
      refine a_iload C0 4 dX5_triedUntilHeard_3 rfl ?_
      refine a_iload_n C0 3 dX5_triedUntilHeard_5 rfl rfl ?_
      refine a_icmp_gt C0 41 dX5_triedUntilHeard_6 rfl (fun h6 => ?_) (fun h6 => ?_)
      · refine a_bipush C0 (-3) dX5_triedUntilHeard_41 rfl ?_
        refine a_iret C0 hr dX5_triedUntilHeard_43 ?_
        refine tr_ ?_
        have hge : mm < i := by
          rw [hxi, hy] at h6
          exact (nI_ltI (by omega) (by omega)).mp h6
        rw [← hm, show mm + 1 - i = 0 by omega]
        rfl
      · have hlt : i ≤ mm := Nat.not_lt.mp fun z => h6 (by rw [hxi, hy]; exact nI_lt z (by omega))
        refine a_aload_n C0 0 dX5_triedUntilHeard_9 rfl rfl ?_
        refine g_X5_19 C0 (lt_b rfl) rfl rfl dX5_triedUntilHeard_10 ?_
        refine g_X5_120 C0 (lt_b rfl) rfl rfl dX5_triedUntilHeard_13 ?_
        refine a_iload_n C0 1 dX5_triedUntilHeard_16 rfl rfl ?_
        refine a_iald C0 _ (lt_b rfl) rfl hx.1 hx.2 dX5_triedUntilHeard_17 ?_
        refine a_iload_n C0 2 dX5_triedUntilHeard_18 rfl rfl ?_
        refine a_iand C0 dX5_triedUntilHeard_19 ?_
        refine a_iload_n C0 2 dX5_triedUntilHeard_20 rfl rfl ?_
        refine a_icmp_ne C0 27 dX5_triedUntilHeard_21 rfl (fun h21 => ?_) (fun h21 => ?_)
        · refine a_aload_n C0 0 dX5_triedUntilHeard_27 rfl rfl ?_
          refine g_X5_19 C0 (lt_b rfl) rfl rfl dX5_triedUntilHeard_28 ?_
          refine a_iload_n C0 1 dX5_triedUntilHeard_31 rfl rfl ?_
          refine a_callV _ 1 C0 em_XT (c_X1_passMinuteOf l G hx w1 ht (ad := fun k => ad (17 + k))) u_c_X1_passMinuteOf u_m_X5_190 u_im_X1_passMinuteOf u_se_X1_passMinuteOf u_in_X1 hy_X1_passMinuteOf rfl (lt_b rfl) rfl (hRk rfl) rfl rfl (le_b rfl) dX5_triedUntilHeard_32 (k_vo ?_)
          refine a_iinc (ls2 := [(4, _), (0, _), (1, _), (2, _), (3, _)]) C0 4 1 dX5_triedUntilHeard_35 rfl rfl (lt_b rfl) rfl ?_
          refine a_goto C0 3 dX5_triedUntilHeard_38 rfl ?_
          refine AW.sub (ls2 := [(0, _), (1, _), (2, _), (3, _), (4, _)]) [1, 2, 3, 4, 0] rfl ?_
          exact ih (i + 1) _ _ (by omega) (by omega) (by rw [hxi, nI_1]) (w1.min ht) (by rw [← hm, show mm + 1 - i = (mm + 1 - (i + 1)) + 1 by omega]; exact (if_neg h21).symm)
        · refine a_iload C0 4 dX5_triedUntilHeard_24 rfl ?_
          refine a_iret C0 hr dX5_triedUntilHeard_26 ?_
          refine tr_ ?_
          rw [← hm, show mm + 1 - i = (mm + 1 - (i + 1)) + 1 by omega, hxi]
          exact (if_pos h21).symm
  refine a_iconst C0 0 dX5_triedUntilHeard_0 rfl ?_
  refine a_istore (ls2 := [(4, _), (0, _), (1, _), (2, _), (3, _)]) C0 dX5_triedUntilHeard_1 (lt_b rfl) rfl ?_
  refine AW.sub (ls2 := [(0, _), (1, _), (2, _), (3, _), (4, _)]) [1, 2, 3, 4, 0] rfl ?_
  exact lp (mm + 2) 0 _ _ (by omega) (Nat.zero_le _) rfl w0 rfl
set_option maxRecDepth 100000 in
set_option maxHeartbeats 4000000 in
theorem c_X5_triedReach (l : Launch) (G : GE) {ad : Nat → Nat} {M : WM} {O : Nat → Int32} {N K T B R S H Z : WM} {x y : Int32} {t nT : Nat} (hx : IX x t 8) (w0 : WFP T nT) (ht : t < nT) (hM : M = mkX O N K T B R S H Z)  : CT l G yX5_triedReach cX5_triedReach 3 (some .int) 5 [.ref (ad 0), .int x, .int y] 54 ad (shX G ad) M (PI (fun r u => r = bcS (minsP (ix y) T t 7 t) ∧ ∃ T2, u = mkX O N K T2 B R S H Z)) := by
  refine CT.of (own := RX5) rfl rfl (le_b rfl) fun p e s m args below meth c A C0 hr => ?_
  refine AW.lo (ls2 := [(0, _), (1, _), (2, _)]) rfl ?_
  subst hM
  refine a_aload_n C0 0 dX5_triedReach_0 rfl rfl ?_
  refine g_X5_19 C0 (lt_b rfl) rfl rfl dX5_triedReach_1 ?_
  refine a_iload_n C0 1 dX5_triedReach_4 rfl rfl ?_
  refine a_iload_n C0 2 dX5_triedReach_5 rfl rfl ?_
  refine a_callV _ 2 C0 em_XT (c_X1_passMinutesOf l G hx w0 ht (ad := fun k => ad (17 + k))) u_c_X1_passMinutesOf u_m_X5_184 u_im_X1_passMinutesOf u_se_X1_passMinutesOf u_in_X1 hy_X1_passMinutesOf rfl (lt_b rfl) rfl (hRk rfl) rfl rfl (le_b rfl) dX5_triedReach_6 (k_vo ?_)
  refine a_aload_n C0 0 dX5_triedReach_9 rfl rfl ?_
  refine g_X5_19 C0 (lt_b rfl) rfl rfl dX5_triedReach_10 ?_
  refine g_X5_120 C0 (lt_b rfl) rfl rfl dX5_triedReach_13 ?_
  refine a_iload_n C0 1 dX5_triedReach_16 rfl rfl ?_
  refine a_iald C0 _ (lt_b rfl) rfl hx.1 hx.2 dX5_triedReach_17 ?_
  refine a_callS _ 1 C0 EM.z (c_J6_bitCount_0f7a4 l G) u_c_J6_bitCount_0f7a4 u_m_X5_200 u_st_J6_bitCount_0f7a4 u_in_J6 hy_J6_bitCount_0f7a4.2 (hRk rfl) rfl rfl (le_b rfl) dX5_triedReach_18 (k_ro EM.z ?_)
  refine a_iret C0 hr dX5_triedReach_21 ?_
  exact tr_ rfl
set_option maxRecDepth 100000 in
set_option maxHeartbeats 4000000 in
theorem c_X5_triedHeat (l : Launch) (G : GE) {ad : Nat → Nat} {M : WM} {O : Nat → Int32} {N K T B R S H Z : WM} {x y b : Int32} {t nT : Nat} (hx : IX x t 8) (w0 : WFP N nT) (ht : t < nT) (hM : M = mkX O N K T B R S H Z)  : CT l G yX5_triedHeat cX5_triedHeat 4 (some .int) 5 [.ref (ad 0), .int x, .int y, .int b] 54 ad (shX G ad) M (PI (fun r u => r = minsP (ix y) (up2 N 0 7 b) t 5 t ∧ ∃ T2, u = mkX O N K T2 B R S H Z)) := by
  refine CT.of (own := RX5) rfl rfl (le_b rfl) fun p e s m args below meth c A C0 hr => ?_
  refine AW.lo (ls2 := [(0, _), (1, _), (2, _), (3, _)]) rfl ?_
  subst hM
  refine a_aload_n C0 0 dX5_triedHeat_0 rfl rfl ?_
  refine a_callV _ 0 C0 EM.refl (c_X5_startTrial l G rfl) u_c_X5_startTrial u_m_X5_181 u_im_X5_startTrial u_se_X5_startTrial u_in_X5 hy_X5_startTrial rfl (lt_b rfl) rfl (hRk rfl) rfl rfl (le_b rfl) dX5_triedHeat_1 (k_vo ?_)
  refine a_aload_n C0 0 dX5_triedHeat_4 rfl rfl ?_
  refine g_X5_19 C0 (lt_b rfl) rfl rfl dX5_triedHeat_5 ?_
  refine a_iload_n C0 3 dX5_triedHeat_8 rfl rfl ?_
  refine p_X5_144 C0 (lt_b rfl) rfl (lt_b rfl) rfl rfl dX5_triedHeat_9 ?_
  refine AW.cg (M := (mkX O N K (up2 N 0 7 b) B R S H Z)) (fun c hc => mkX_Tu (q := 0) (by decide) c hc) ?_
  refine a_aload_n C0 0 dX5_triedHeat_12 rfl rfl ?_
  refine g_X5_19 C0 (lt_b rfl) rfl rfl dX5_triedHeat_13 ?_
  refine a_iload_n C0 1 dX5_triedHeat_16 rfl rfl ?_
  refine a_iload_n C0 2 dX5_triedHeat_17 rfl rfl ?_
  refine a_callV _ 2 C0 em_XT (c_X1_passMinutesOf l G hx w0.bx ht (ad := fun k => ad (17 + k))) u_c_X1_passMinutesOf u_m_X5_184 u_im_X1_passMinutesOf u_se_X1_passMinutesOf u_in_X1 hy_X1_passMinutesOf rfl (lt_b rfl) rfl (hRk rfl) rfl rfl (le_b rfl) dX5_triedHeat_18 (k_vo ?_)
  refine a_aload_n C0 0 dX5_triedHeat_21 rfl rfl ?_
  refine g_X5_19 C0 (lt_b rfl) rfl rfl dX5_triedHeat_22 ?_
  refine g_X5_114 C0 (lt_b rfl) rfl rfl dX5_triedHeat_25 ?_
  refine a_iload_n C0 1 dX5_triedHeat_28 rfl rfl ?_
  refine a_iald C0 _ (lt_b rfl) rfl hx.1 hx.2 dX5_triedHeat_29 ?_
  refine a_iret C0 hr dX5_triedHeat_30 ?_
  exact tr_ rfl

theorem mkX_S0 {O : Nat → Int32} {N K T B R S H Z : WM} {j : Nat} (h : j < 4) : mkX O N K T B R S H Z (39 + 2 * j) = S (2 * j) := mkX_S (by omega)
theorem mkX_S1 {O : Nat → Int32} {N K T B R S H Z : WM} {j : Nat} (h : j < 4) : mkX O N K T B R S H Z (40 + 2 * j) = S (2 * j + 1) := by
  rw [show 40 + 2 * j = 39 + (2 * j + 1) by omega]
  exact mkX_S (by omega)

set_option maxRecDepth 100000 in
set_option maxHeartbeats 4000000 in
theorem c_X5_goesAsTold (l : Launch) (G : GE) {ad : Nat → Nat} {M : WM} {O : Nat → Int32} {N K T B R S H Z : WM} {x y : Int32} {t nT j cn : Nat} (hx : IX x t 8) (w0 : WFP N nT) (ht : t < nT) (hj : j < 4) (hcn : S (2 * j) 1 = nI cn) (hcn40 : cn ≤ 40) (hM : M = mkX O N K T B R S H Z)  : CT l G yX5_goesAsTold cX5_goesAsTold 6 (some .boolean) 4 [.ref (ad 0), .int x, .int y, .ref (ad (39 + 2 * j))] 54 ad (shX G ad) M (PI (fun r u => r = bI (goS (S (2 * j + 1)) t cn 0 (up2 N 5 t y) = true) ∧ ∃ T2, u = mkX O N K T2 B R S H Z)) := by
  refine CT.of (own := RX5) rfl rfl (le_b rfl) fun p e s m args below meth c A C0 hr => ?_
  refine AW.lo (ls2 := [(0, _), (1, _), (2, _), (3, _)]) rfl ?_
  subst hM
  have hs0 := fun T2 : WM => mkX_S0 (O := O) (N := N) (K := K) (T := T2) (B := B) (R := R) (S := S) (H := H) (Z := Z) hj
  have hs1 := fun T2 : WM => mkX_S1 (O := O) (N := N) (K := K) (T := T2) (B := B) (R := R) (S := S) (H := H) (Z := Z) hj
  have lp : ∀ (n : Nat) (i : Nat) (xi : Int32) (T1 : WM), cn - i < n → (i ≤ cn) → (xi = nI i) → (WFP T1 nT) → (goS (S (2 * j + 1)) t (cn - i) i T1 = goS (S (2 * j + 1)) t cn 0 (up2 N 5 t y)) → AW p l e (rmk 4) s m args below meth c G A 54 ad (shX G ad) 6 0 0 (MQ below (CQ G 54 ad (shX G ad) A (PI (fun r u => r = bI (goS (S (2 * j + 1)) t cn 0 (up2 N 5 t y) = true) ∧ ∃ T2, u = mkX O N K T2 B R S H Z))) args s 0 0 A) 17 [(0, .ref (ad 0)), (1, .int x), (2, .int y), (3, .ref (ad (39 + 2 * j))), (4, .int xi)] [] (mkX O N K T1 B R S H Z) := by
    intro n
    induction n with
    | zero =>
      intro i xi T1 hn
      exact absurd hn (Nat.not_lt_zero _)
    | succ n ih =>
      intro i xi T1 hn hi hxi w1 hm
      have ecn : mkX O N K T1 B R S H Z (39 + 2 * j) 1 = nI cn := by rw [hs0]; exact hcn
      refine a_iload C0 4 dX5_goesAsTold_17 rfl ?_
      refine a_aload_n C0 3 dX5_goesAsTold_19 rfl rfl ?_
      refine g_X5_216 C0 (by omega) (shX_se hj _) rfl dX5_goesAsTold_20 ?_
      refine a_icmp_ge C0 71 dX5_goesAsTold_23 rfl (fun h23 => ?_) (fun h23 => ?_)
      · refine a_iconst C0 1 dX5_goesAsTold_71 rfl ?_
        refine a_zret C0 hr rfl dX5_goesAsTold_72 ?_
        refine ⟨_, rfl, ?_, _, rfl⟩
        have e : i = cn := Nat.le_antisymm hi (i_ge hxi ecn (by omega) (by omega) h23)
        refine (bI_t ?_).symm
        rw [← hm, e, Nat.sub_self]
        rfl
      · have hlt : i < cn := i_lt hxi ecn (by omega) (by omega) h23
        have hx2 : IX xi i 40 := IX.eqn hxi (by omega) (by decide)
        refine a_aload_n C0 0 dX5_goesAsTold_26 rfl rfl ?_
        refine g_X5_19 C0 (lt_b rfl) rfl rfl dX5_goesAsTold_27 ?_
        refine a_iload_n C0 1 dX5_goesAsTold_30 rfl rfl ?_
        refine a_callV _ 1 C0 em_XT (c_X1_passMinuteOf l G hx w1 ht (ad := fun k => ad (17 + k))) u_c_X1_passMinuteOf u_m_X5_190 u_im_X1_passMinuteOf u_se_X1_passMinuteOf u_in_X1 hy_X1_passMinuteOf rfl (lt_b rfl) rfl (hRk rfl) rfl rfl (le_b rfl) dX5_goesAsTold_31 (k_vo ?_)
        refine a_aload_n C0 3 dX5_goesAsTold_34 rfl rfl ?_
        refine g_X5_217 C0 (by omega) (shX_se hj _) rfl dX5_goesAsTold_35 ?_
        refine a_iload C0 4 dX5_goesAsTold_38 rfl ?_
        refine a_iald C0 _ (by omega) (shX_si hj _) hx2.1 hx2.2 dX5_goesAsTold_40 ?_
        refine a_istore (ls2 := [(5, _), (0, _), (1, _), (2, _), (3, _), (4, _)]) C0 dX5_goesAsTold_41 (lt_b rfl) rfl ?_
        refine a_iload C0 0 dX5_goesAsTold_43 rfl ?_
        refine a_iconst C0 (-1) dX5_goesAsTold_45 rfl ?_
        refine a_icmp_eq C0 65 dX5_goesAsTold_46 rfl (fun h46 => ?_) (fun h46 => ?_)
        · refine a_iinc (ls2 := [(4, _), (5, _), (0, _), (1, _), (2, _), (3, _)]) C0 5 1 dX5_goesAsTold_65 rfl rfl (lt_b rfl) rfl ?_
          refine a_goto C0 17 dX5_goesAsTold_68 rfl ?_
          refine AW.sub (ls2 := [(0, _), (1, _), (2, _), (3, _), (4, _)]) [2, 3, 4, 5, 0] rfl ?_
          exact ih (i + 1) _ _ (by omega) hlt (by rw [hxi, nI_1]) (w1.min ht) (by
            rw [← hm, show cn - i = (cn - (i + 1)) + 1 by omega]
            refine (if_pos ?_).symm
            first
              | exact Or.inl (by have h46 := h46; rw [hs1] at h46; exact h46)
              | exact Or.inr (by have h60 := h60; rw [hs1] at h60; exact h60))
        · refine a_iload C0 0 dX5_goesAsTold_49 rfl ?_
          refine a_aload_n C0 1 dX5_goesAsTold_51 rfl rfl ?_
          refine g_X5_19 C0 (lt_b rfl) rfl rfl dX5_goesAsTold_52 ?_
          refine g_X5_117 C0 (lt_b rfl) rfl rfl dX5_goesAsTold_55 ?_
          refine a_iload_n C0 2 dX5_goesAsTold_58 rfl rfl ?_
          refine a_iald C0 _ (lt_b rfl) rfl hx.1 hx.2 dX5_goesAsTold_59 ?_
          refine a_icmp_eq C0 65 dX5_goesAsTold_60 rfl (fun h60 => ?_) (fun h60 => ?_)
          · refine a_iinc (ls2 := [(4, _), (5, _), (0, _), (1, _), (2, _), (3, _)]) C0 5 1 dX5_goesAsTold_65 rfl rfl (lt_b rfl) rfl ?_
            refine a_goto C0 17 dX5_goesAsTold_68 rfl ?_
            refine AW.sub (ls2 := [(0, _), (1, _), (2, _), (3, _), (4, _)]) [2, 3, 4, 5, 0] rfl ?_
            exact ih (i + 1) _ _ (by omega) hlt (by rw [hxi, nI_1]) (w1.min ht) (by
              rw [← hm, show cn - i = (cn - (i + 1)) + 1 by omega]
              refine (if_pos ?_).symm
              first
                | exact Or.inl (by have h46 := h46; rw [hs1] at h46; exact h46)
                | exact Or.inr (by have h60 := h60; rw [hs1] at h60; exact h60))
          · refine a_iconst C0 0 dX5_goesAsTold_63 rfl ?_
            refine a_zret C0 hr rfl dX5_goesAsTold_64 ?_
            refine ⟨_, rfl, ?_, _, rfl⟩
            refine (bI_f ?_).symm
            rw [← hm, show cn - i = (cn - (i + 1)) + 1 by omega]
            intro hh
            rw [show goS (S (2 * j + 1)) t (cn - (i + 1) + 1) i T1 = false from if_neg (by
              rintro (q | q)
              · exact h46 (by rw [hs1]; exact q)
              · exact h60 (by rw [hs1]; exact q))] at hh
            cases hh
  refine a_aload_n C0 0 dX5_goesAsTold_0 rfl rfl ?_
  refine a_callV _ 0 C0 EM.refl (c_X5_startTrial l G rfl) u_c_X5_startTrial u_m_X5_181 u_im_X5_startTrial u_se_X5_startTrial u_in_X5 hy_X5_startTrial rfl (lt_b rfl) rfl (hRk rfl) rfl rfl (le_b rfl) dX5_goesAsTold_1 (k_vo ?_)
  refine a_aload_n C0 0 dX5_goesAsTold_4 rfl rfl ?_
  refine g_X5_19 C0 (lt_b rfl) rfl rfl dX5_goesAsTold_5 ?_
  refine g_X5_114 C0 (lt_b rfl) rfl rfl dX5_goesAsTold_8 ?_
  refine a_iload_n C0 1 dX5_goesAsTold_11 rfl rfl ?_
  refine a_iload_n C0 2 dX5_goesAsTold_12 rfl rfl ?_
  refine a_iast C0 _ (lt_b rfl) (fun _ => rfl) hx.1 hx.2 dX5_goesAsTold_13 ?_
  refine AW.cg (M := (mkX O N K (up2 N 5 t y) B R S H Z)) (fun c hc => mkX_Tu (q := 5) (by decide) c hc) ?_
  refine a_iconst C0 0 dX5_goesAsTold_14 rfl ?_
  refine a_istore (ls2 := [(4, _), (0, _), (1, _), (2, _), (3, _)]) C0 dX5_goesAsTold_15 (lt_b rfl) rfl ?_
  refine AW.sub (ls2 := [(0, _), (1, _), (2, _), (3, _), (4, _)]) [1, 2, 3, 4, 0] rfl ?_
  exact lp (cn + 1) 0 _ _ (by omega) (Nat.zero_le _) rfl w0.heat rfl
set_option maxRecDepth 100000 in
set_option maxHeartbeats 4000000 in
theorem c_X5_triedRowPart (l : Launch) (G : GE) {ad : Nat → Nat} {M : WM} {O : Nat → Int32} {N K T B R S H Z : WM} {x y : Int32} {t : Nat} (hx : IX x t 8) (hM : M = mkX O N K T B R S H Z)  : CT l G yX5_triedRowPart cX5_triedRowPart 3 (some .int) 0 [.ref (ad 0), .int x, .int y] 54 ad (shX G ad) M (PI (fun r u => r = (if y = 0 then T 6 t else if y = 1 then T 5 t else T 7 t) ∧ u = M)) := by
  refine CT.of (own := RX5) rfl rfl (le_b rfl) fun p e s m args below meth c A C0 hr => ?_
  refine AW.lo (ls2 := [(0, _), (1, _), (2, _)]) rfl ?_
  subst hM
  refine a_iload_n C0 2 dX5_triedRowPart_0 rfl rfl ?_
  refine a_case 0 (fun h1 => ?_) (fun h1n_0 => ?_)
  · refine a_lsw C0 (off := 27) 28 dX5_triedRowPart_1 (by decide) (by decide) rfl ?_
    refine a_aload_n C0 0 dX5_triedRowPart_28 rfl rfl ?_
    refine g_X5_19 C0 (lt_b rfl) rfl rfl dX5_triedRowPart_29 ?_
    refine g_X5_117 C0 (lt_b rfl) rfl rfl dX5_triedRowPart_32 ?_
    refine a_iload_n C0 1 dX5_triedRowPart_35 rfl rfl ?_
    refine a_iald C0 _ (lt_b rfl) rfl hx.1 hx.2 dX5_triedRowPart_36 ?_
    refine a_iret C0 hr dX5_triedRowPart_37 ?_
    exact rt_ (by rw [if_pos h1]; rfl)
  refine a_case 1 (fun h1 => ?_) (fun h1n_1 => ?_)
  · refine a_lsw C0 (off := 37) 38 dX5_triedRowPart_1 (by decide) (by decide) rfl ?_
    refine a_aload_n C0 0 dX5_triedRowPart_38 rfl rfl ?_
    refine g_X5_19 C0 (lt_b rfl) rfl rfl dX5_triedRowPart_39 ?_
    refine g_X5_114 C0 (lt_b rfl) rfl rfl dX5_triedRowPart_42 ?_
    refine a_iload_n C0 1 dX5_triedRowPart_45 rfl rfl ?_
    refine a_iald C0 _ (lt_b rfl) rfl hx.1 hx.2 dX5_triedRowPart_46 ?_
    refine a_iret C0 hr dX5_triedRowPart_47 ?_
    exact rt_ (by rw [if_neg h1n_0, if_pos h1]; rfl)
  refine a_lsw C0 (off := 47) 48 dX5_triedRowPart_1 (by decide) (by show Op.lookupswitch.offset [(0, 27), (1, 37)] 47 _ = _; rw [lv_osw (a := 0) h1n_0 rfl, lv_osw (a := 1) h1n_1 rfl]; rfl) rfl ?_
  refine a_aload_n C0 0 dX5_triedRowPart_48 rfl rfl ?_
  refine g_X5_19 C0 (lt_b rfl) rfl rfl dX5_triedRowPart_49 ?_
  refine g_X5_120 C0 (lt_b rfl) rfl rfl dX5_triedRowPart_52 ?_
  refine a_iload_n C0 1 dX5_triedRowPart_55 rfl rfl ?_
  refine a_iald C0 _ (lt_b rfl) rfl hx.1 hx.2 dX5_triedRowPart_56 ?_
  refine a_iret C0 hr dX5_triedRowPart_57 ?_
  exact rt_ (by rw [if_neg h1n_0, if_neg h1n_1]; rfl)
abbrev isRw (O : Nat → Int32) (v y : Int32) : Prop := ((0 ≤ v ∧ v ≤ O 6 - 1) ∧ (0 ≤ y ∧ y ≤ 2))
set_option maxRecDepth 100000 in
set_option maxHeartbeats 4000000 in
theorem c_X5_isInRows (l : Launch) (G : GE) {ad : Nat → Nat} {M : WM} {O : Nat → Int32} {N K T B R S H Z : WM} {v y : Int32} (hM : M = mkX O N K T B R S H Z)  : CT l G yX5_isInRows cX5_isInRows 3 (some .boolean) 1 [.ref (ad 0), .int v, .int y] 54 ad (shX G ad) M (PI (fun r u => r = bI (isRw O v y) ∧ u = M)) := by
  refine CT.of (own := RX5) rfl rfl (le_b rfl) fun p e s m args below meth c A C0 hr => ?_
  refine AW.lo (ls2 := [(0, _), (1, _), (2, _)]) rfl ?_
  subst hM
  refine a_iload_n C0 1 dX5_isInRows_0 rfl rfl ?_
  refine a_iconst C0 0 dX5_isInRows_1 rfl ?_
  refine a_aload_n C0 0 dX5_isInRows_2 rfl rfl ?_
  refine g_X5_81 C0 (lt_b rfl) rfl rfl dX5_isInRows_3 ?_
  refine a_iconst C0 1 dX5_isInRows_6 rfl ?_
  refine a_isub C0 dX5_isInRows_7 ?_
  refine a_callS _ 3 C0 EM.z (c_X5_isWithin l G) u_c_X5_isWithin u_m_X5_55 u_st_X5_isWithin u_in_X5 hy_X5_isWithin.2 (hRk rfl) rfl rfl (le_b rfl) dX5_isInRows_8 (k_ro EM.z ?_)
  refine a_if_eqb C0 27 dX5_isInRows_11 rfl (fun h11 => ?_) (fun h11 => ?_)
  · refine a_iconst C0 0 dX5_isInRows_27 rfl ?_
    refine a_zret C0 hr rfl dX5_isInRows_28 ?_
    refine rt_ ?_
    first
      | exact (bI_t ⟨h11, h20⟩).symm
      | exact (bI_f fun q => h11 q.1).symm
      | exact (bI_f fun q => h20 q.2).symm
  · refine a_iload_n C0 2 dX5_isInRows_14 rfl rfl ?_
    refine a_iconst C0 0 dX5_isInRows_15 rfl ?_
    refine a_iconst C0 2 dX5_isInRows_16 rfl ?_
    refine a_callS _ 3 C0 EM.z (c_X5_isWithin l G) u_c_X5_isWithin u_m_X5_55 u_st_X5_isWithin u_in_X5 hy_X5_isWithin.2 (hRk rfl) rfl rfl (le_b rfl) dX5_isInRows_17 (k_ro EM.z ?_)
    refine a_if_eqb C0 27 dX5_isInRows_20 rfl (fun h20 => ?_) (fun h20 => ?_)
    · refine a_iconst C0 0 dX5_isInRows_27 rfl ?_
      refine a_zret C0 hr rfl dX5_isInRows_28 ?_
      refine rt_ ?_
      first
        | exact (bI_t ⟨h11, h20⟩).symm
        | exact (bI_f fun q => h11 q.1).symm
        | exact (bI_f fun q => h20 q.2).symm
    · refine a_iconst C0 1 dX5_isInRows_23 rfl ?_
      refine a_goto C0 28 dX5_isInRows_24 rfl ?_
      refine a_zret C0 hr rfl dX5_isInRows_28 ?_
      refine rt_ ?_
      first
        | exact (bI_t ⟨h11, h20⟩).symm
        | exact (bI_f fun q => h11 q.1).symm
        | exact (bI_f fun q => h20 q.2).symm
set_option maxRecDepth 100000 in
set_option maxHeartbeats 4000000 in
theorem c_X5_where (l : Launch) (G : GE) {ad : Nat → Nat} {M : WM} {O : Nat → Int32} {N K T B R S H Z : WM} {v y : Int32} {nT : Nat} (w : WFP N nT) (hM : M = mkX O N K T B R S H Z)  : CT l G yX5_where cX5_where 3 (some .int) 5 [.ref (ad 0), .int v, .int y] 54 ad (shX G ad) M (PI (fun r u => r = (if (isTl N v ∧ (0 ≤ y ∧ y ≤ 60)) then minsP (ix y) N (ix v) 6 (ix v) else -1) ∧ ∃ T2, u = mkX O N K T2 B R S H Z)) := by
  refine CT.of (own := RX5) rfl rfl (le_b rfl) fun p e s m args below meth c A C0 hr => ?_
  refine AW.lo (ls2 := [(0, _), (1, _), (2, _)]) rfl ?_
  subst hM
  refine a_aload_n C0 0 dX5_where_0 rfl rfl ?_
  refine a_iload_n C0 1 dX5_where_1 rfl rfl ?_
  refine a_callV _ 1 C0 EM.refl (c_X5_isTale l G rfl) u_c_X5_isTale u_m_X5_108 u_im_X5_isTale u_se_X5_isTale u_in_X5 hy_X5_isTale rfl (lt_b rfl) rfl (hRk rfl) rfl rfl (le_b rfl) dX5_where_2 (k_ro EM.refl ?_)
  refine a_if_eqb C0 18 dX5_where_5 rfl (fun h5 => ?_) (fun h5 => ?_)
  · refine a_iconst C0 (-1) dX5_where_18 rfl ?_
    refine a_iret C0 hr dX5_where_19 ?_
    have hc : ¬ (isTl N v ∧ (0 ≤ y ∧ y ≤ 60)) := fun q => by
      first
        | exact h5 q.1
        | exact h15 q.2
    exact tr_ (if_neg hc).symm
  · refine a_iload_n C0 2 dX5_where_8 rfl rfl ?_
    refine a_iconst C0 0 dX5_where_9 rfl ?_
    refine a_bipush C0 60 dX5_where_10 rfl ?_
    refine a_callS _ 3 C0 EM.z (c_X5_isWithin l G) u_c_X5_isWithin u_m_X5_55 u_st_X5_isWithin u_in_X5 hy_X5_isWithin.2 (hRk rfl) rfl rfl (le_b rfl) dX5_where_12 (k_ro EM.z ?_)
    refine a_if_neb C0 20 dX5_where_15 rfl (fun h15 => ?_) (fun h15 => ?_)
    · have hv := (isTl_in w).mp h5
      have hx : IX v (ix v) 8 := IX.v (vp_le hv w.2.1)
      have ht : ix v < nT := vp_lt hv
      refine a_aload_n C0 0 dX5_where_20 rfl rfl ?_
      refine a_callV _ 0 C0 EM.refl (c_X5_startTrial l G rfl) u_c_X5_startTrial u_m_X5_181 u_im_X5_startTrial u_se_X5_startTrial u_in_X5 hy_X5_startTrial rfl (lt_b rfl) rfl (hRk rfl) rfl rfl (le_b rfl) dX5_where_21 (k_vo ?_)
      refine a_aload_n C0 0 dX5_where_24 rfl rfl ?_
      refine g_X5_19 C0 (lt_b rfl) rfl rfl dX5_where_25 ?_
      refine a_iload_n C0 1 dX5_where_28 rfl rfl ?_
      refine a_iload_n C0 2 dX5_where_29 rfl rfl ?_
      refine a_callV _ 2 C0 em_XT (c_X1_passMinutesOf l G hx w ht (ad := fun k => ad (17 + k))) u_c_X1_passMinutesOf u_m_X5_184 u_im_X1_passMinutesOf u_se_X1_passMinutesOf u_in_X1 hy_X1_passMinutesOf rfl (lt_b rfl) rfl (hRk rfl) rfl rfl (le_b rfl) dX5_where_30 (k_vo ?_)
      refine a_aload_n C0 0 dX5_where_33 rfl rfl ?_
      refine g_X5_19 C0 (lt_b rfl) rfl rfl dX5_where_34 ?_
      refine g_X5_117 C0 (lt_b rfl) rfl rfl dX5_where_37 ?_
      refine a_iload_n C0 1 dX5_where_40 rfl rfl ?_
      refine a_iald C0 _ (lt_b rfl) rfl hx.1 hx.2 dX5_where_41 ?_
      refine a_iret C0 hr dX5_where_42 ?_
      exact tr_ (if_pos (show (isTl N v ∧ (0 ≤ y ∧ y ≤ 60)) from ⟨h5, h15⟩)).symm
    · refine a_iconst C0 (-1) dX5_where_18 rfl ?_
      refine a_iret C0 hr dX5_where_19 ?_
      have hc : ¬ (isTl N v ∧ (0 ≤ y ∧ y ≤ 60)) := fun q => by
        first
          | exact h5 q.1
          | exact h15 q.2
      exact tr_ (if_neg hc).symm
set_option maxRecDepth 100000 in
set_option maxHeartbeats 4000000 in
theorem c_X5_comes (l : Launch) (G : GE) {ad : Nat → Nat} {M : WM} {O : Nat → Int32} {N K T B R S H Z : WM} {v y : Int32} {nT : Nat} (w : WFP N nT) (hM : M = mkX O N K T B R S H Z)  : CT l G yX5_comes cX5_comes 3 (some .int) 5 [.ref (ad 0), .int v, .int y] 54 ad (shX G ad) M (PI (fun r u => r = (if (isTl N v ∧ isHo y) then huS 61 N (ix v) (1 <<< (y &&& 31)) 0 else -1) ∧ ∃ T2, u = mkX O N K T2 B R S H Z)) := by
  refine CT.of (own := RX5) rfl rfl (le_b rfl) fun p e s m args below meth c A C0 hr => ?_
  refine AW.lo (ls2 := [(0, _), (1, _), (2, _)]) rfl ?_
  subst hM
  refine a_aload_n C0 0 dX5_comes_0 rfl rfl ?_
  refine a_iload_n C0 1 dX5_comes_1 rfl rfl ?_
  refine a_callV _ 1 C0 EM.refl (c_X5_isTale l G rfl) u_c_X5_isTale u_m_X5_108 u_im_X5_isTale u_se_X5_isTale u_in_X5 hy_X5_isTale rfl (lt_b rfl) rfl (hRk rfl) rfl rfl (le_b rfl) dX5_comes_2 (k_ro EM.refl ?_)
  refine a_if_eqb C0 15 dX5_comes_5 rfl (fun h5 => ?_) (fun h5 => ?_)
  · refine a_iconst C0 (-1) dX5_comes_15 rfl ?_
    refine a_iret C0 hr dX5_comes_16 ?_
    have hc : ¬ (isTl N v ∧ isHo y) := fun q => by
      first
        | exact h5 q.1
        | exact h12 q.2
    exact tr_ (if_neg hc).symm
  · refine a_iload_n C0 2 dX5_comes_8 rfl rfl ?_
    refine a_callS _ 1 C0 EM.z (c_X5_isHouse l G) u_c_X5_isHouse u_m_X5_101 u_st_X5_isHouse u_in_X5 hy_X5_isHouse.2 (hRk rfl) rfl rfl (le_b rfl) dX5_comes_9 (k_ro EM.z ?_)
    refine a_if_neb C0 17 dX5_comes_12 rfl (fun h12 => ?_) (fun h12 => ?_)
    · have hv := (isTl_in w).mp h5
      have hx : IX v (ix v) 8 := IX.v (vp_le hv w.2.1)
      have ht : ix v < nT := vp_lt hv
      refine a_aload_n C0 0 dX5_comes_17 rfl rfl ?_
      refine a_callV _ 0 C0 EM.refl (c_X5_startTrial l G rfl) u_c_X5_startTrial u_m_X5_181 u_im_X5_startTrial u_se_X5_startTrial u_in_X5 hy_X5_startTrial rfl (lt_b rfl) rfl (hRk rfl) rfl rfl (le_b rfl) dX5_comes_18 (k_vo ?_)
      refine a_aload_n C0 0 dX5_comes_21 rfl rfl ?_
      refine a_iload_n C0 1 dX5_comes_22 rfl rfl ?_
      refine a_iconst C0 1 dX5_comes_23 rfl ?_
      refine a_iload_n C0 2 dX5_comes_24 rfl rfl ?_
      refine a_ishl C0 dX5_comes_25 ?_
      refine a_bipush C0 60 dX5_comes_26 rfl ?_
      refine a_callV _ 3 C0 EM.refl (c_X5_triedUntilHeard l G (mm := 60) hx w ht rfl (by decide) rfl) u_c_X5_triedUntilHeard u_m_X5_187 u_im_X5_triedUntilHeard u_se_X5_triedUntilHeard u_in_X5 hy_X5_triedUntilHeard rfl (lt_b rfl) rfl (hRk rfl) rfl rfl (le_b rfl) dX5_comes_28 (k_i fun r28 u28 q28 => ?_)
      obtain ⟨rfl, T2, rfl⟩ := q28
      refine a_iret C0 hr dX5_comes_31 ?_
      exact tr_ (if_pos (show (isTl N v ∧ isHo y) from ⟨h5, h12⟩)).symm
    · refine a_iconst C0 (-1) dX5_comes_15 rfl ?_
      refine a_iret C0 hr dX5_comes_16 ?_
      have hc : ¬ (isTl N v ∧ isHo y) := fun q => by
        first
          | exact h5 q.1
          | exact h12 q.2
      exact tr_ (if_neg hc).symm
set_option maxRecDepth 100000 in
set_option maxHeartbeats 4000000 in
theorem c_X5_whole (l : Launch) (G : GE) {ad : Nat → Nat} {M : WM} {O : Nat → Int32} {N K T B R S H Z : WM} {v : Int32} {nT : Nat} (w : WFP N nT) (hM : M = mkX O N K T B R S H Z)  : CT l G yX5_whole cX5_whole 2 (some .int) 5 [.ref (ad 0), .int v] 54 ad (shX G ad) M (PI (fun r u => r = (if isTl N v then huS 61 N (ix v) 255 0 else -1) ∧ ∃ T2, u = mkX O N K T2 B R S H Z)) := by
  refine CT.of (own := RX5) rfl rfl (le_b rfl) fun p e s m args below meth c A C0 hr => ?_
  refine AW.lo (ls2 := [(0, _), (1, _)]) rfl ?_
  subst hM
  refine a_aload_n C0 0 dX5_whole_0 rfl rfl ?_
  refine a_iload_n C0 1 dX5_whole_1 rfl rfl ?_
  refine a_callV _ 1 C0 EM.refl (c_X5_isTale l G rfl) u_c_X5_isTale u_m_X5_108 u_im_X5_isTale u_se_X5_isTale u_in_X5 hy_X5_isTale rfl (lt_b rfl) rfl (hRk rfl) rfl rfl (le_b rfl) dX5_whole_2 (k_ro EM.refl ?_)
  refine a_if_neb C0 10 dX5_whole_5 rfl (fun h5 => ?_) (fun h5 => ?_)
  · have hv := (isTl_in w).mp h5
    have hx : IX v (ix v) 8 := IX.v (vp_le hv w.2.1)
    have ht : ix v < nT := vp_lt hv
    refine a_aload_n C0 0 dX5_whole_10 rfl rfl ?_
    refine a_callV _ 0 C0 EM.refl (c_X5_startTrial l G rfl) u_c_X5_startTrial u_m_X5_181 u_im_X5_startTrial u_se_X5_startTrial u_in_X5 hy_X5_startTrial rfl (lt_b rfl) rfl (hRk rfl) rfl rfl (le_b rfl) dX5_whole_11 (k_vo ?_)
    refine a_aload_n C0 0 dX5_whole_14 rfl rfl ?_
    refine a_iload_n C0 1 dX5_whole_15 rfl rfl ?_
    refine a_sipush C0 255 dX5_whole_16 rfl ?_
    refine a_bipush C0 60 dX5_whole_19 rfl ?_
    refine a_callV _ 3 C0 EM.refl (c_X5_triedUntilHeard l G (mm := 60) hx w ht rfl (by decide) rfl) u_c_X5_triedUntilHeard u_m_X5_187 u_im_X5_triedUntilHeard u_se_X5_triedUntilHeard u_in_X5 hy_X5_triedUntilHeard rfl (lt_b rfl) rfl (hRk rfl) rfl rfl (le_b rfl) dX5_whole_21 (k_i fun r21 u21 q21 => ?_)
    obtain ⟨rfl, T2, rfl⟩ := q21
    refine a_iret C0 hr dX5_whole_24 ?_
    exact tr_ (if_pos h5).symm
  · refine a_iconst C0 (-1) dX5_whole_8 rfl ?_
    refine a_iret C0 hr dX5_whole_9 ?_
    exact tr_ (if_neg h5).symm
set_option maxRecDepth 100000 in
set_option maxHeartbeats 4000000 in
theorem c_X5_reach (l : Launch) (G : GE) {ad : Nat → Nat} {M : WM} {O : Nat → Int32} {N K T B R S H Z : WM} {v y : Int32} {nT : Nat} (w : WFP N nT) (hM : M = mkX O N K T B R S H Z)  : CT l G yX5_reach cX5_reach 3 (some .int) 6 [.ref (ad 0), .int v, .int y] 54 ad (shX G ad) M (PI (fun r u => r = (if (isTl N v ∧ (0 ≤ y ∧ y ≤ 60)) then bcS (minsP (ix y) N (ix v) 7 (ix v)) else -1) ∧ ∃ T2, u = mkX O N K T2 B R S H Z)) := by
  refine CT.of (own := RX5) rfl rfl (le_b rfl) fun p e s m args below meth c A C0 hr => ?_
  refine AW.lo (ls2 := [(0, _), (1, _), (2, _)]) rfl ?_
  subst hM
  refine a_aload_n C0 0 dX5_reach_0 rfl rfl ?_
  refine a_iload_n C0 1 dX5_reach_1 rfl rfl ?_
  refine a_callV _ 1 C0 EM.refl (c_X5_isTale l G rfl) u_c_X5_isTale u_m_X5_108 u_im_X5_isTale u_se_X5_isTale u_in_X5 hy_X5_isTale rfl (lt_b rfl) rfl (hRk rfl) rfl rfl (le_b rfl) dX5_reach_2 (k_ro EM.refl ?_)
  refine a_if_eqb C0 18 dX5_reach_5 rfl (fun h5 => ?_) (fun h5 => ?_)
  · refine a_iconst C0 (-1) dX5_reach_18 rfl ?_
    refine a_iret C0 hr dX5_reach_19 ?_
    have hc : ¬ (isTl N v ∧ (0 ≤ y ∧ y ≤ 60)) := fun q => by
      first
        | exact h5 q.1
        | exact h15 q.2
    exact tr_ (if_neg hc).symm
  · refine a_iload_n C0 2 dX5_reach_8 rfl rfl ?_
    refine a_iconst C0 0 dX5_reach_9 rfl ?_
    refine a_bipush C0 60 dX5_reach_10 rfl ?_
    refine a_callS _ 3 C0 EM.z (c_X5_isWithin l G) u_c_X5_isWithin u_m_X5_55 u_st_X5_isWithin u_in_X5 hy_X5_isWithin.2 (hRk rfl) rfl rfl (le_b rfl) dX5_reach_12 (k_ro EM.z ?_)
    refine a_if_neb C0 20 dX5_reach_15 rfl (fun h15 => ?_) (fun h15 => ?_)
    · have hv := (isTl_in w).mp h5
      have hx : IX v (ix v) 8 := IX.v (vp_le hv w.2.1)
      have ht : ix v < nT := vp_lt hv
      refine a_aload_n C0 0 dX5_reach_20 rfl rfl ?_
      refine a_callV _ 0 C0 EM.refl (c_X5_startTrial l G rfl) u_c_X5_startTrial u_m_X5_181 u_im_X5_startTrial u_se_X5_startTrial u_in_X5 hy_X5_startTrial rfl (lt_b rfl) rfl (hRk rfl) rfl rfl (le_b rfl) dX5_reach_21 (k_vo ?_)
      refine a_aload_n C0 0 dX5_reach_24 rfl rfl ?_
      refine a_iload_n C0 1 dX5_reach_25 rfl rfl ?_
      refine a_iload_n C0 2 dX5_reach_26 rfl rfl ?_
      refine a_callV _ 2 C0 EM.refl (c_X5_triedReach l G hx w ht rfl) u_c_X5_triedReach u_m_X5_194 u_im_X5_triedReach u_se_X5_triedReach u_in_X5 hy_X5_triedReach rfl (lt_b rfl) rfl (hRk rfl) rfl rfl (le_b rfl) dX5_reach_27 (k_i fun r27 u27 q27 => ?_)
      obtain ⟨rfl, T2, rfl⟩ := q27
      refine a_iret C0 hr dX5_reach_30 ?_
      exact tr_ (if_pos (show (isTl N v ∧ (0 ≤ y ∧ y ≤ 60)) from ⟨h5, h15⟩)).symm
    · refine a_iconst C0 (-1) dX5_reach_18 rfl ?_
      refine a_iret C0 hr dX5_reach_19 ?_
      have hc : ¬ (isTl N v ∧ (0 ≤ y ∧ y ≤ 60)) := fun q => by
        first
          | exact h5 q.1
          | exact h15 q.2
      exact tr_ (if_neg hc).symm
set_option maxRecDepth 100000 in
set_option maxHeartbeats 4000000 in
theorem c_X5_cold (l : Launch) (G : GE) {ad : Nat → Nat} {M : WM} {O : Nat → Int32} {N K T B R S H Z : WM} {v : Int32} {nT : Nat} (w : WFP N nT) (hM : M = mkX O N K T B R S H Z)  : CT l G yX5_cold cX5_cold 3 (some .int) 4 [.ref (ad 0), .int v] 54 ad (shX G ad) M (PI (fun r u => r = (if isTl N v then coS 61 N (ix v) 0 else -1) ∧ ∃ T2, u = mkX O N K T2 B R S H Z)) := by
  refine CT.of (own := RX5) rfl rfl (le_b rfl) fun p e s m args below meth c A C0 hr => ?_
  refine AW.lo (ls2 := [(0, _), (1, _)]) rfl ?_
  subst hM
  have lp : ∀ (n : Nat) (i : Nat) (xi : Int32) (T1 : WM), 61 - i < n → (i ≤ 61) → (xi = nI i) → (isTl N v) → (WFP T1 nT) → (coS (61 - i) T1 (ix v) i = coS 61 N (ix v) 0) → AW p l e (rmk 4) s m args below meth c G A 54 ad (shX G ad) 3 0 0 (MQ below (CQ G 54 ad (shX G ad) A (PI (fun r u => r = (if isTl N v then coS 61 N (ix v) 0 else -1) ∧ ∃ T2, u = mkX O N K T2 B R S H Z))) args s 0 0 A) 16 [(0, .ref (ad 0)), (1, .int v), (2, .int xi)] [] (mkX O N K T1 B R S H Z) := by
    intro n
    induction n with
    | zero =>
      intro i xi T1 hn
      exact absurd hn (Nat.not_lt_zero _)
    | succ n ih =>
      intro i xi T1 hn hi hxi h5 w1 hm
      have hv := (isTl_in w).mp h5
      have hx : IX v (ix v) 8 := IX.v (vp_le hv w.2.1)
      have ht : ix v < nT := vp_lt hv
      refine a_iload_n C0 2 dX5_cold_16 rfl rfl ?_
      refine a_bipush C0 60 dX5_cold_17 rfl ?_
      refine a_icmp_gt C0 50 dX5_cold_19 rfl (fun h19 => ?_) (fun h19 => ?_)
      · refine a_bipush C0 (-3) dX5_cold_50 rfl ?_
        refine a_iret C0 hr dX5_cold_52 ?_
        refine tr_ ?_
        have hge : 60 < i := by
          rw [hxi] at h19
          exact (nI_ltI (a := 60) (by decide) (by omega)).mp h19
        rw [if_pos h5, ← hm, show 61 - i = 0 by omega]
        rfl
      · have hlt : i ≤ 60 := Nat.not_lt.mp fun z => h19 (by rw [hxi]; exact nI_lt (a := 60) z (by omega))
        refine a_aload_n C0 0 dX5_cold_22 rfl rfl ?_
        refine g_X5_19 C0 (lt_b rfl) rfl rfl dX5_cold_23 ?_
        refine g_X5_114 C0 (lt_b rfl) rfl rfl dX5_cold_26 ?_
        refine a_iload_n C0 1 dX5_cold_29 rfl rfl ?_
        refine a_iald C0 _ (lt_b rfl) rfl hx.1 hx.2 dX5_cold_30 ?_
        refine a_if_ne C0 36 dX5_cold_31 rfl (fun h31 => ?_) (fun h31 => ?_)
        · refine a_aload_n C0 0 dX5_cold_36 rfl rfl ?_
          refine g_X5_19 C0 (lt_b rfl) rfl rfl dX5_cold_37 ?_
          refine a_iload_n C0 1 dX5_cold_40 rfl rfl ?_
          refine a_callV _ 1 C0 em_XT (c_X1_passMinuteOf l G hx w1 ht (ad := fun k => ad (17 + k))) u_c_X1_passMinuteOf u_m_X5_190 u_im_X1_passMinuteOf u_se_X1_passMinuteOf u_in_X1 hy_X1_passMinuteOf rfl (lt_b rfl) rfl (hRk rfl) rfl rfl (le_b rfl) dX5_cold_41 (k_vo ?_)
          refine a_iinc (ls2 := [(2, _), (0, _), (1, _)]) C0 2 1 dX5_cold_44 rfl rfl (lt_b rfl) rfl ?_
          refine a_goto C0 16 dX5_cold_47 rfl ?_
          refine AW.sub (ls2 := [(0, _), (1, _), (2, _)]) [1, 2, 0] rfl ?_
          exact ih (i + 1) _ _ (by omega) (by omega) (by rw [hxi, nI_1]) h5 (w1.min ht) (by rw [← hm, show 61 - i = (61 - (i + 1)) + 1 by omega]; exact (if_neg h31).symm)
        · refine a_iload_n C0 2 dX5_cold_34 rfl rfl ?_
          refine a_iret C0 hr dX5_cold_35 ?_
          refine tr_ ?_
          rw [if_pos h5, ← hm, show 61 - i = (61 - (i + 1)) + 1 by omega, hxi]
          exact (if_pos h31).symm
  refine a_aload_n C0 0 dX5_cold_0 rfl rfl ?_
  refine a_iload_n C0 1 dX5_cold_1 rfl rfl ?_
  refine a_callV _ 1 C0 EM.refl (c_X5_isTale l G rfl) u_c_X5_isTale u_m_X5_108 u_im_X5_isTale u_se_X5_isTale u_in_X5 hy_X5_isTale rfl (lt_b rfl) rfl (hRk rfl) rfl rfl (le_b rfl) dX5_cold_2 (k_ro EM.refl ?_)
  refine a_if_neb C0 10 dX5_cold_5 rfl (fun h5 => ?_) (fun h5 => ?_)
  · refine a_aload_n C0 0 dX5_cold_10 rfl rfl ?_
    refine a_callV _ 0 C0 EM.refl (c_X5_startTrial l G rfl) u_c_X5_startTrial u_m_X5_181 u_im_X5_startTrial u_se_X5_startTrial u_in_X5 hy_X5_startTrial rfl (lt_b rfl) rfl (hRk rfl) rfl rfl (le_b rfl) dX5_cold_11 (k_vo ?_)
    refine a_iconst C0 0 dX5_cold_14 rfl ?_
    refine a_istore_n (ls2 := [(2, _), (0, _), (1, _)]) C0 dX5_cold_15 rfl (lt_b rfl) rfl ?_
    refine AW.sub (ls2 := [(0, _), (1, _), (2, _)]) [1, 2, 0] rfl ?_
    exact lp 62 0 _ _ (by omega) (Nat.zero_le _) rfl h5 w rfl
  · refine a_iconst C0 (-1) dX5_cold_8 rfl ?_
    refine a_iret C0 hr dX5_cold_9 ?_
    exact tr_ (if_neg h5).symm
set_option maxRecDepth 100000 in
set_option maxHeartbeats 4000000 in
theorem c_X5_home (l : Launch) (G : GE) {ad : Nat → Nat} {M : WM} {O : Nat → Int32} {N K T B R S H Z : WM} {v : Int32} {nT : Nat} (w : WFP N nT) (hM : M = mkX O N K T B R S H Z)  : CT l G yX5_home cX5_home 3 (some .int) 4 [.ref (ad 0), .int v] 54 ad (shX G ad) M (PI (fun r u => r = (if isTl N v then hoS 60 N (ix v) (N 6 (ix v)) 1 else -1) ∧ ∃ T2, u = mkX O N K T2 B R S H Z)) := by
  refine CT.of (own := RX5) rfl rfl (le_b rfl) fun p e s m args below meth c A C0 hr => ?_
  refine AW.lo (ls2 := [(0, _), (1, _)]) rfl ?_
  subst hM
  have lp : ∀ (n : Nat) (i : Nat) (xi : Int32) (T1 : WM), 61 - i < n → (i ≤ 61) → (1 ≤ i) → (xi = nI i) → (isTl N v) → (WFP T1 nT) → (hoS (61 - i) T1 (ix v) (N 6 (ix v)) i = hoS 60 N (ix v) (N 6 (ix v)) 1) → AW p l e (rmk 4) s m args below meth c G A 54 ad (shX G ad) 3 0 0 (MQ below (CQ G 54 ad (shX G ad) A (PI (fun r u => r = (if isTl N v then hoS 60 N (ix v) (N 6 (ix v)) 1 else -1) ∧ ∃ T2, u = mkX O N K T2 B R S H Z))) args s 0 0 A) 16 [(0, .ref (ad 0)), (1, .int v), (2, .int xi)] [] (mkX O N K T1 B R S H Z) := by
    intro n
    induction n with
    | zero =>
      intro i xi T1 hn
      exact absurd hn (Nat.not_lt_zero _)
    | succ n ih =>
      intro i xi T1 hn hi hi0 hxi h5 w1 hm
      have hv := (isTl_in w).mp h5
      have hx : IX v (ix v) 8 := IX.v (vp_le hv w.2.1)
      have ht : ix v < nT := vp_lt hv
      refine a_iload_n C0 2 dX5_home_16 rfl rfl ?_
      refine a_bipush C0 60 dX5_home_17 rfl ?_
      refine a_icmp_gt C0 71 dX5_home_19 rfl (fun h19 => ?_) (fun h19 => ?_)
      · refine a_bipush C0 (-3) dX5_home_71 rfl ?_
        refine a_iret C0 hr dX5_home_73 ?_
        refine tr_ ?_
        have hge : 60 < i := by
          rw [hxi] at h19
          exact (nI_ltI (a := 60) (by decide) (by omega)).mp h19
        rw [if_pos h5, ← hm, show 61 - i = 0 by omega]
        rfl
      · have hlt : i ≤ 60 := Nat.not_lt.mp fun z => h19 (by rw [hxi]; exact nI_lt (a := 60) z (by omega))
        refine a_aload_n C0 0 dX5_home_22 rfl rfl ?_
        refine g_X5_19 C0 (lt_b rfl) rfl rfl dX5_home_23 ?_
        refine a_iload_n C0 1 dX5_home_26 rfl rfl ?_
        refine a_callV _ 1 C0 em_XT (c_X1_passMinuteOf l G hx w1 ht (ad := fun k => ad (17 + k))) u_c_X1_passMinuteOf u_m_X5_190 u_im_X1_passMinuteOf u_se_X1_passMinuteOf u_in_X1 hy_X1_passMinuteOf rfl (lt_b rfl) rfl (hRk rfl) rfl rfl (le_b rfl) dX5_home_27 (k_vo ?_)
        refine a_aload_n C0 0 dX5_home_30 rfl rfl ?_
        refine g_X5_19 C0 (lt_b rfl) rfl rfl dX5_home_31 ?_
        refine g_X5_117 C0 (lt_b rfl) rfl rfl dX5_home_34 ?_
        refine a_iload_n C0 1 dX5_home_37 rfl rfl ?_
        refine a_iald C0 _ (lt_b rfl) rfl hx.1 hx.2 dX5_home_38 ?_
        refine a_aload_n C0 0 dX5_home_39 rfl rfl ?_
        refine g_X5_10 C0 (lt_b rfl) rfl rfl dX5_home_40 ?_
        refine g_X5_117 C0 (lt_b rfl) rfl rfl dX5_home_43 ?_
        refine a_iload_n C0 1 dX5_home_46 rfl rfl ?_
        refine a_iald C0 _ (lt_b rfl) rfl hx.1 hx.2 dX5_home_47 ?_
        refine a_icmp_ne C0 65 dX5_home_48 rfl (fun h48 => ?_) (fun h48 => ?_)
        · refine a_iinc (ls2 := [(2, _), (0, _), (1, _)]) C0 2 1 dX5_home_65 rfl rfl (lt_b rfl) rfl ?_
          refine a_goto C0 16 dX5_home_68 rfl ?_
          refine AW.sub (ls2 := [(0, _), (1, _), (2, _)]) [1, 2, 0] rfl ?_
          exact ih (i + 1) _ _ (by omega) (by omega) (by omega) (by rw [hxi, nI_1]) h5 (w1.min ht) (by
            rw [← hm, show 61 - i = (61 - (i + 1)) + 1 by omega]
            refine (if_neg ?_).symm
            intro q
            first
              | exact h48 q.1
              | exact absurd q.2 (Int32.not_lt.mpr h60))
        · refine a_aload_n C0 0 dX5_home_51 rfl rfl ?_
          refine g_X5_19 C0 (lt_b rfl) rfl rfl dX5_home_52 ?_
          refine g_X5_114 C0 (lt_b rfl) rfl rfl dX5_home_55 ?_
          refine a_iload_n C0 1 dX5_home_58 rfl rfl ?_
          refine a_iald C0 _ (lt_b rfl) rfl hx.1 hx.2 dX5_home_59 ?_
          refine a_if_le C0 65 dX5_home_60 rfl (fun h60 => ?_) (fun h60 => ?_)
          · refine a_iinc (ls2 := [(2, _), (0, _), (1, _)]) C0 2 1 dX5_home_65 rfl rfl (lt_b rfl) rfl ?_
            refine a_goto C0 16 dX5_home_68 rfl ?_
            refine AW.sub (ls2 := [(0, _), (1, _), (2, _)]) [1, 2, 0] rfl ?_
            exact ih (i + 1) _ _ (by omega) (by omega) (by omega) (by rw [hxi, nI_1]) h5 (w1.min ht) (by
              rw [← hm, show 61 - i = (61 - (i + 1)) + 1 by omega]
              refine (if_neg ?_).symm
              intro q
              first
                | exact h48 q.1
                | exact absurd q.2 (Int32.not_lt.mpr h60))
          · refine a_iload_n C0 2 dX5_home_63 rfl rfl ?_
            refine a_iret C0 hr dX5_home_64 ?_
            refine tr_ ?_
            rw [if_pos h5, ← hm, show 61 - i = (61 - (i + 1)) + 1 by omega, hxi]
            exact (if_pos ⟨h48, Int32.not_le.mp h60⟩).symm
  refine a_aload_n C0 0 dX5_home_0 rfl rfl ?_
  refine a_iload_n C0 1 dX5_home_1 rfl rfl ?_
  refine a_callV _ 1 C0 EM.refl (c_X5_isTale l G rfl) u_c_X5_isTale u_m_X5_108 u_im_X5_isTale u_se_X5_isTale u_in_X5 hy_X5_isTale rfl (lt_b rfl) rfl (hRk rfl) rfl rfl (le_b rfl) dX5_home_2 (k_ro EM.refl ?_)
  refine a_if_neb C0 10 dX5_home_5 rfl (fun h5 => ?_) (fun h5 => ?_)
  · refine a_aload_n C0 0 dX5_home_10 rfl rfl ?_
    refine a_callV _ 0 C0 EM.refl (c_X5_startTrial l G rfl) u_c_X5_startTrial u_m_X5_181 u_im_X5_startTrial u_se_X5_startTrial u_in_X5 hy_X5_startTrial rfl (lt_b rfl) rfl (hRk rfl) rfl rfl (le_b rfl) dX5_home_11 (k_vo ?_)
    refine a_iconst C0 1 dX5_home_14 rfl ?_
    refine a_istore_n (ls2 := [(2, _), (0, _), (1, _)]) C0 dX5_home_15 rfl (lt_b rfl) rfl ?_
    refine AW.sub (ls2 := [(0, _), (1, _), (2, _)]) [1, 2, 0] rfl ?_
    exact lp 62 1 _ _ (by omega) (by omega) (by omega) rfl h5 w rfl
  · refine a_iconst C0 (-1) dX5_home_8 rfl ?_
    refine a_iret C0 hr dX5_home_9 ?_
    exact tr_ (if_neg h5).symm
