
/-! a Sheet, a Shelf of the world, by its number -/
def setS (S : WM) (j : Nat) (u : WM) : WM := fun c => if c = 2 * j then u 0 else if c = 2 * j + 1 then u 1 else S c
def setH (H : WM) (j : Nat) (u : WM) : WM := fun c => if c = j then u 0 else H c
abbrev atS (S : WM) (j : Nat) : WM := fun k => S (2 * j + k)
abbrev atH (H : WM) (j : Nat) : WM := fun k => H (j + k)
section MXS
variable {O : Nat → Int32} {N K T B R S H Z : WM}
theorem mkX_S2 {j k : Nat} (h : j < 4) (hk : k < 2) : mkX O N K T B R S H Z (39 + 2 * j + k) = S (2 * j + k) := by
  rw [show 39 + 2 * j + k = 39 + (2 * j + k) by omega]
  exact mkX_S (by omega)
theorem mkX_Hj {j : Nat} (h : j < 4) : mkX O N K T B R S H Z (48 + j) = H j := mkX_H h
theorem mkX_setS {j : Nat} {u : WM} (h : j < 4) {i : Nat} (hi : i < 54) (h0 : ∀ k, k < 2 → 39 + 2 * j + k ≠ i) : mkX O N K T B R (setS S j u) H Z i = mkX O N K T B R S H Z i := by
  by_cases h1 : 39 ≤ i ∧ i < 47
  · obtain ⟨q, rfl⟩ : ∃ q, i = 39 + q := ⟨i - 39, by omega⟩
    rw [mkX_S (by omega), mkX_S (by omega)]
    have a0 := h0 0 (by decide)
    have a1 := h0 1 (by decide)
    unfold setS
    rw [if_neg (by omega), if_neg (by omega)]
  · exact mkX_So (by omega) hi
theorem mkX_setH {j : Nat} {u : WM} (h : j < 4) {i : Nat} (hi : i < 54) (h0 : 48 + j ≠ i) : mkX O N K T B R S (setH H j u) Z i = mkX O N K T B R S H Z i := by
  by_cases h1 : 48 ≤ i ∧ i < 52
  · obtain ⟨q, rfl⟩ : ∃ q, i = 48 + q := ⟨i - 48, by omega⟩
    rw [mkX_H (by omega), mkX_H (by omega)]
    unfold setH
    rw [if_neg (by omega)]
  · exact mkX_Ho (by omega) hi
theorem setS_0 {j : Nat} {u : WM} : setS S j u (2 * j + 0) = u 0 := if_pos rfl
theorem setS_1 {j : Nat} {u : WM} : setS S j u (2 * j + 1) = u 1 := by
  unfold setS
  rw [if_neg (by omega), if_pos rfl]
theorem shS_X {G : GE} {ad : Nat → Nat} {j : Nat} (h : j < 4) : ∀ k, k < 2 → ∀ f, shS G (fun k => ad (39 + 2 * j + k)) k f = shX G ad (39 + 2 * j + k) f := by
  intro k hk f
  match k, hk with
  | 0, _ => exact (shX_se (G := G) (ad := ad) h f).symm ▸ (by rw [show 40 + 2 * j = 39 + 2 * j + 1 by omega]; rfl)
  | 1, _ =>
    rw [show 39 + 2 * j + 1 = 40 + 2 * j by omega]
    exact (shX_si (G := G) (ad := ad) h f).symm
theorem em_XSj {G : GE} {ad : Nat → Nat} {j : Nat} (h : j < 4) : EM 54 2 ad (fun k => ad (39 + 2 * j + k)) (shX G ad) (shS G (fun k => ad (39 + 2 * j + k))) (mkX O N K T B R S H Z) (atS S j) (fun u => mkX O N K T B R (setS S j u) H Z) := by
  refine ⟨fun k => 39 + 2 * j + k, fun k hk => ⟨by show 39 + 2 * j + k < 54; omega, rfl, (mkX_S2 h hk).symm, shS_X h k hk⟩, fun a b _ _ q => by have q : 39 + 2 * j + a = 39 + 2 * j + b := q; omega, fun u => ⟨fun k hk => ?_, fun i hi q => mkX_setS h hi q⟩⟩
  show mkX O N K T B R (setS S j u) H Z (39 + 2 * j + k) = u k
  rw [mkX_S2 h hk]
  match k, hk with
  | 0, _ => exact setS_0
  | 1, _ => exact setS_1
theorem em_XHj {G : GE} {ad : Nat → Nat} {j : Nat} (h : j < 4) : EM 54 1 ad (fun k => ad (48 + j + k)) (shX G ad) (shH G (fun k => ad (48 + j + k))) (mkX O N K T B R S H Z) (atH H j) (fun u => mkX O N K T B R S (setH H j u) Z) := by
  refine ⟨fun k => 48 + j + k, fun k hk => ⟨by show 48 + j + k < 54; omega, rfl, ?_, ?_⟩, fun a b _ _ q => by have q : 48 + j + a = 48 + j + b := q; omega, fun u => ⟨fun k hk => ?_, fun i hi q => mkX_setH h hi (q 0 (by decide))⟩⟩
  · match k, hk with
    | 0, _ => exact (mkX_Hj h).symm
  · intro f
    match k, hk with
    | 0, _ => exact (shX_sv (G := G) (ad := ad) h f).symm
  · match k, hk with
    | 0, _ =>
      show mkX O N K T B R S (setH H j u) Z (48 + j) = u 0
      rw [mkX_Hj h]
      exact if_pos rfl
theorem em_XHSj {G : GE} {ad : Nat → Nat} {j i : Nat} (h : j < 4) (h2 : i < 4) : EM 54 3 ad (fun k => ad (io2 (48 + j) 1 (39 + 2 * i) k)) (shX G ad) (shHS G (fun k => ad (io2 (48 + j) 1 (39 + 2 * i) k))) (mkX O N K T B R S H Z) (fun k => if k = 0 then H j else S (2 * i + (k - 1))) (fun u => mkX O N K T B R (setS S i (fun k => u (1 + k))) (setH H j u) Z) := by
  refine ⟨io2 (48 + j) 1 (39 + 2 * i), fun k hk => ⟨?_, rfl, ?_, ?_⟩, fun a b ha hb q => ?_, fun u => ⟨fun k hk => ?_, fun q hq h0 => ?_⟩⟩
  · unfold io2
    split <;> omega
  · match k, hk with
    | 0, _ => exact (mkX_Hj h).symm
    | 1, _ => exact (mkX_S2 (k := 0) h2 (by decide)).symm
    | 2, _ => exact (mkX_S2 (k := 1) h2 (by decide)).symm
  · intro f
    match k, hk with
    | 0, _ => exact (shX_sv (G := G) (ad := ad) h f).symm
    | 1, _ => exact (shX_se (G := G) (ad := ad) h2 f).symm ▸ (by rw [show 40 + 2 * i = 39 + 2 * i + 1 by omega]; rfl)
    | 2, _ =>
      show _ = shX G ad (39 + 2 * i + 1) f
      rw [show 39 + 2 * i + 1 = 40 + 2 * i by omega]
      exact (shX_si (G := G) (ad := ad) h2 f).symm
  · unfold io2 at q
    split at q <;> split at q <;> omega
  · match k, hk with
    | 0, _ =>
      show mkX O N K T B R (setS S i (fun k => u (1 + k))) (setH H j u) Z (48 + j) = u 0
      rw [mkX_Hj h]
      exact if_pos rfl
    | 1, _ =>
      show mkX O N K T B R (setS S i (fun k => u (1 + k))) (setH H j u) Z (39 + 2 * i + 0) = u 1
      rw [mkX_S2 h2 (by decide)]
      exact setS_0
    | 2, _ =>
      show mkX O N K T B R (setS S i (fun k => u (1 + k))) (setH H j u) Z (39 + 2 * i + 1) = u 2
      rw [mkX_S2 h2 (by decide)]
      exact setS_1
  · have a0 := h0 0 (by decide)
    have a1 := h0 1 (by decide)
    have a2 := h0 2 (by decide)
    have a0 : 48 + j ≠ q := a0
    have a1 : 39 + 2 * i ≠ q := a1
    have a2 : 39 + 2 * i + 1 ≠ q := a2
    show mkX O N K T B R (setS S i (fun k => u (1 + k))) (setH H j u) Z q = mkX O N K T B R S H Z q
    rw [mkX_setH h hq a0]
    refine mkX_setS h2 hq fun k hk => ?_
    match k, hk with
    | 0, _ => exact a1
    | 1, _ => exact a2
theorem setS_id {i : Nat} (h2 : i < 4) {u : WM} (h0 : u 0 = S (2 * i)) (h1 : u 1 = S (2 * i + 1)) : setS S i u = S := by
  funext c
  unfold setS
  by_cases c0 : c = 2 * i
  · rw [if_pos c0, h0, c0]
  · rw [if_neg c0]
    by_cases c1 : c = 2 * i + 1
    · rw [if_pos c1, h1, c1]
    · rw [if_neg c1]
end MXS
abbrev isSh (v : Int32) : Prop := 0 ≤ v ∧ v ≤ 3
theorem sh_in {v : Int32} (h : isSh v) : vp_in v 4 := in_of (n := 3) (by decide) h
/-- the Sheets: each of at most 40 items -/
def WFS (S : WM) : Prop := ∀ j, j < 4 → ∃ cn, S (2 * j) 1 = nI cn ∧ cn ≤ 40

set_option maxRecDepth 100000 in
set_option maxHeartbeats 4000000 in
theorem c_X5_fits (l : Launch) (G : GE) {ad : Nat → Nat} {M : WM} {O : Nat → Int32} {N K T B R S H Z : WM} {v x k : Int32} {nT cn : Nat} (w : WFP N nT) (hcn : ix v < 4 → S (2 * ix v) 1 = nI cn) (hcn40 : cn ≤ 40) (hM : M = mkX O N K T B R S H Z)  : CT l G yX5_fits cX5_fits 7 (some .int) 5 [.ref (ad 0), .int v, .int x, .int k] 54 ad (shX G ad) M (PI (fun r u => r = (if (isSh v ∧ isTl N x ∧ (0 ≤ k ∧ k ≤ 1)) then (if S (2 * ix v) 0 = -1 then -11 else if k = 0 then (ftS (fun i => goS (S (2 * ix v + 1)) (ix x) cn 0 (up2 N 5 (ix x) (nI i))) 100).2 else (ftS (fun i => goS (S (2 * ix v + 1)) (ix x) cn 0 (up2 N 5 (ix x) (nI i))) 100).1) else -1) ∧ ∃ T2, u = mkX O N K T2 B R S H Z)) := by
  refine CT.of (own := RX5) rfl rfl (le_b rfl) fun p e s m args below meth c A C0 hr => ?_
  refine AW.lo (ls2 := [(0, _), (1, _), (2, _), (3, _)]) rfl ?_
  subst hM
  have lp : ∀ (n : Nat) (i : Nat) (a b xi : Int32) (T1 : WM), 100 - i < n → (i ≤ 100) → (xi = nI (100 - i) - 1) → ((isSh v ∧ isTl N x ∧ (0 ≤ k ∧ k ≤ 1)) ∧ ¬ S (2 * ix v) 0 = -1) → ((a, b) = ftS (fun i => goS (S (2 * ix v + 1)) (ix x) cn 0 (up2 N 5 (ix x) (nI i))) i) → AW p l e (rmk 5) s m args below meth c G A 54 ad (shX G ad) 7 0 0 (MQ below (CQ G 54 ad (shX G ad) A (PI (fun r u => r = (if (isSh v ∧ isTl N x ∧ (0 ≤ k ∧ k ≤ 1)) then (if S (2 * ix v) 0 = -1 then -11 else if k = 0 then (ftS (fun i => goS (S (2 * ix v + 1)) (ix x) cn 0 (up2 N 5 (ix x) (nI i))) 100).2 else (ftS (fun i => goS (S (2 * ix v + 1)) (ix x) cn 0 (up2 N 5 (ix x) (nI i))) 100).1) else -1) ∧ ∃ T2, u = mkX O N K T2 B R S H Z))) args s 0 0 A) 52 [(0, .ref (ad 0)), (1, .int v), (2, .int x), (3, .int k), (4, .int a), (5, .int b), (6, .int xi)] [] (mkX O N K T1 B R S H Z) := by
    intro n
    induction n with
    | zero =>
      intro i a b xi T1 hn
      exact absurd hn (Nat.not_lt_zero _)
    | succ n ih =>
      intro i a b xi T1 hn hi hxi hc hm
      have hv := (isTl_in w).mp hc.1.2.1
      have hx : IX x (ix x) 8 := IX.v (vp_le hv w.2.1)
      have ht : ix x < nT := vp_lt hv
      have hv4 := sh_in hc.1.1
      have hj : ix v < 4 := vp_lt hv4
      refine a_iload C0 6 dX5_fits_52 rfl ?_
      refine a_if_lt C0 86 dX5_fits_54 rfl (fun h54 => ?_) (fun h54 => ?_)
      · refine a_iload_n C0 3 dX5_fits_86 rfl rfl ?_
        refine a_if_ne C0 95 dX5_fits_87 rfl (fun h87 => ?_) (fun h87 => ?_)
        · refine a_iload C0 4 dX5_fits_95 rfl ?_
          refine a_iret C0 hr dX5_fits_97 ?_
          have e : i = 100 := by
            rcases Nat.lt_or_ge i 100 with q | q
            · exfalso
              rw [hxi, show 100 - i = (99 - i) + 1 by omega, nI_pred] at h54
              exact nI_pos (by omega) h54
            · omega
          subst e
          refine tr_ ?_
          rw [if_pos hc.1, if_neg hc.2, ← hm]
          first
            | rw [if_pos h87]
            | rw [if_neg h87]
        · refine a_iload C0 5 dX5_fits_90 rfl ?_
          refine a_goto C0 97 dX5_fits_92 rfl ?_
          refine a_iret C0 hr dX5_fits_97 ?_
          have e : i = 100 := by
            rcases Nat.lt_or_ge i 100 with q | q
            · exfalso
              rw [hxi, show 100 - i = (99 - i) + 1 by omega, nI_pred] at h54
              exact nI_pos (by omega) h54
            · omega
          subst e
          refine tr_ ?_
          rw [if_pos hc.1, if_neg hc.2, ← hm]
          first
            | rw [if_pos h87]
            | rw [if_neg h87]
      · have hlt : i ≤ 99 := by
          rcases Nat.lt_or_ge 99 i with q | q
          · exfalso
            apply h54
            rw [hxi, show 100 - i = 0 by omega]
            decide
          · exact q
        have hx99 : xi = nI (99 - i) := by
          rw [hxi, show 100 - i = (99 - i) + 1 by omega, nI_pred]
        refine a_aload_n C0 0 dX5_fits_57 rfl rfl ?_
        refine a_iload_n C0 2 dX5_fits_58 rfl rfl ?_
        refine a_iload C0 6 dX5_fits_59 rfl ?_
        refine a_aload_n C0 0 dX5_fits_61 rfl rfl ?_
        refine g_X5_36 C0 (lt_b rfl) rfl rfl dX5_fits_62 ?_
        refine a_iload_n C0 1 dX5_fits_65 rfl rfl ?_
        refine a_aald (t0 := 3) C0 (ix v) (39 + 2 * (ix v)) rfl rfl (lt_b rfl) rfl hv4 rfl (if_pos hj) dX5_fits_66 ?_
        refine a_callV _ 3 C0 EM.refl (c_X5_goesAsTold l G (t := ix x) hx w ht hj (hcn hj) hcn40 rfl) u_c_X5_goesAsTold u_m_X5_212 u_im_X5_goesAsTold u_se_X5_goesAsTold u_in_X5 hy_X5_goesAsTold rfl (lt_b rfl) rfl (hRk rfl) rfl rfl (le_b rfl) dX5_fits_67 (k_i fun r67 u67 q67 => ?_)
        obtain ⟨rfl, T2, rfl⟩ := q67
        rw [hx99]
        refine a_if_eq C0 80 dX5_fits_70 rfl (fun h70 => ?_) (fun h70 => ?_)
        · refine a_iinc (ls2 := [(6, _), (0, _), (1, _), (2, _), (3, _), (4, _), (5, _)]) C0 6 (-1) dX5_fits_80 rfl rfl (lt_b rfl) rfl ?_
          refine a_goto C0 52 dX5_fits_83 rfl ?_
          refine AW.sub (ls2 := [(0, _), (1, _), (2, _), (3, _), (4, _), (5, _), (6, _)]) [1, 2, 3, 4, 5, 6, 0] rfl ?_
          exact ih (i + 1) _ _ _ _ (by omega) (by omega) (by rw [show 100 - (i + 1) = 99 - i by omega, Int32.sub_eq_add_neg]) hc (by
            show _ = if (fun i => goS (S (2 * ix v + 1)) (ix x) cn 0 (up2 N 5 (ix x) (nI i))) (99 - i) = true then (nI (99 - i), (ftS (fun i => goS (S (2 * ix v + 1)) (ix x) cn 0 (up2 N 5 (ix x) (nI i))) i).2 + 1) else ftS (fun i => goS (S (2 * ix v + 1)) (ix x) cn 0 (up2 N 5 (ix x) (nI i))) i
            first
              | (rw [if_pos (bI_1 h70), ← hm])
              | (rw [if_neg (bI_0 h70)]
                 exact hm))
        · refine a_iload C0 6 dX5_fits_73 rfl ?_
          refine a_istore (ls2 := [(4, _), (0, _), (1, _), (2, _), (3, _), (5, _), (6, _)]) C0 dX5_fits_75 (lt_b rfl) rfl ?_
          refine a_iinc (ls2 := [(5, _), (4, _), (0, _), (1, _), (2, _), (3, _), (6, _)]) C0 5 1 dX5_fits_77 rfl rfl (lt_b rfl) rfl ?_
          refine a_iinc (ls2 := [(6, _), (5, _), (4, _), (0, _), (1, _), (2, _), (3, _)]) C0 6 (-1) dX5_fits_80 rfl rfl (lt_b rfl) rfl ?_
          refine a_goto C0 52 dX5_fits_83 rfl ?_
          refine AW.sub (ls2 := [(0, _), (1, _), (2, _), (3, _), (4, _), (5, _), (6, _)]) [3, 4, 5, 6, 2, 1, 0] rfl ?_
          exact ih (i + 1) _ _ _ _ (by omega) (by omega) (by rw [show 100 - (i + 1) = 99 - i by omega, Int32.sub_eq_add_neg]) hc (by
            show _ = if (fun i => goS (S (2 * ix v + 1)) (ix x) cn 0 (up2 N 5 (ix x) (nI i))) (99 - i) = true then (nI (99 - i), (ftS (fun i => goS (S (2 * ix v + 1)) (ix x) cn 0 (up2 N 5 (ix x) (nI i))) i).2 + 1) else ftS (fun i => goS (S (2 * ix v + 1)) (ix x) cn 0 (up2 N 5 (ix x) (nI i))) i
            first
              | (rw [if_pos (bI_1 h70), ← hm])
              | (rw [if_neg (bI_0 h70)]
                 exact hm))
  refine a_iload_n C0 1 dX5_fits_0 rfl rfl ?_
  refine a_callS _ 1 C0 EM.z (c_X5_isSheet l G) u_c_X5_isSheet u_m_X5_205 u_st_X5_isSheet u_in_X5 hy_X5_isSheet.2 (hRk rfl) rfl rfl (le_b rfl) dX5_fits_1 (k_ro EM.z ?_)
  refine a_if_eqb C0 24 dX5_fits_4 rfl (fun h4 => ?_) (fun h4 => ?_)
  · refine a_iconst C0 (-1) dX5_fits_24 rfl ?_
    refine a_iret C0 hr dX5_fits_25 ?_
    have hc : ¬ (isSh v ∧ isTl N x ∧ (0 ≤ k ∧ k ≤ 1)) := fun q => by
      first
        | exact h4 q.1
        | exact h12 q.2.1
        | exact h21 q.2.2
    exact tr_ (if_neg hc).symm
  · refine a_aload_n C0 0 dX5_fits_7 rfl rfl ?_
    refine a_iload_n C0 2 dX5_fits_8 rfl rfl ?_
    refine a_callV _ 1 C0 EM.refl (c_X5_isTale l G rfl) u_c_X5_isTale u_m_X5_108 u_im_X5_isTale u_se_X5_isTale u_in_X5 hy_X5_isTale rfl (lt_b rfl) rfl (hRk rfl) rfl rfl (le_b rfl) dX5_fits_9 (k_ro EM.refl ?_)
    refine a_if_eqb C0 24 dX5_fits_12 rfl (fun h12 => ?_) (fun h12 => ?_)
    · refine a_iconst C0 (-1) dX5_fits_24 rfl ?_
      refine a_iret C0 hr dX5_fits_25 ?_
      have hc : ¬ (isSh v ∧ isTl N x ∧ (0 ≤ k ∧ k ≤ 1)) := fun q => by
        first
          | exact h4 q.1
          | exact h12 q.2.1
          | exact h21 q.2.2
      exact tr_ (if_neg hc).symm
    · refine a_iload_n C0 3 dX5_fits_15 rfl rfl ?_
      refine a_iconst C0 0 dX5_fits_16 rfl ?_
      refine a_iconst C0 1 dX5_fits_17 rfl ?_
      refine a_callS _ 3 C0 EM.z (c_X5_isWithin l G) u_c_X5_isWithin u_m_X5_55 u_st_X5_isWithin u_in_X5 hy_X5_isWithin.2 (hRk rfl) rfl rfl (le_b rfl) dX5_fits_18 (k_ro EM.z ?_)
      refine a_if_neb C0 26 dX5_fits_21 rfl (fun h21 => ?_) (fun h21 => ?_)
      · have hv4 := sh_in h4
        have hj : ix v < 4 := vp_lt hv4
        refine a_aload_n C0 0 dX5_fits_26 rfl rfl ?_
        refine g_X5_36 C0 (lt_b rfl) rfl rfl dX5_fits_27 ?_
        refine a_iload_n C0 1 dX5_fits_30 rfl rfl ?_
        refine a_aald (t0 := 3) C0 (ix v) (39 + 2 * (ix v)) rfl rfl (lt_b rfl) rfl hv4 rfl (if_pos hj) dX5_fits_31 ?_
        refine a_callV _ 0 C0 (em_XSj hj) (c_X2_isMissing l G (ad := fun k => ad (39 + 2 * ix v + k))) u_c_X2_isMissing u_m_X5_208 u_im_X2_isMissing u_se_X2_isMissing u_in_X2 hy_X2_isMissing rfl (by omega) (shX_se hj _) (hRk rfl) rfl rfl (le_b rfl) dX5_fits_32 (k_ro (em_XSj hj) ?_)
        refine a_if_eqb C0 41 dX5_fits_35 rfl (fun h35 => ?_) (fun h35 => ?_)
        · have hmis : ¬ S (2 * ix v) 0 = -1 := h35
          refine a_bipush C0 (-3) dX5_fits_41 rfl ?_
          refine a_istore (ls2 := [(4, _), (0, _), (1, _), (2, _), (3, _)]) C0 dX5_fits_43 (lt_b rfl) rfl ?_
          refine a_iconst C0 0 dX5_fits_45 rfl ?_
          refine a_istore (ls2 := [(5, _), (4, _), (0, _), (1, _), (2, _), (3, _)]) C0 dX5_fits_46 (lt_b rfl) rfl ?_
          refine a_bipush C0 99 dX5_fits_48 rfl ?_
          refine a_istore (ls2 := [(6, _), (5, _), (4, _), (0, _), (1, _), (2, _), (3, _)]) C0 dX5_fits_50 (lt_b rfl) rfl ?_
          refine AW.sub (ls2 := [(0, _), (1, _), (2, _), (3, _), (4, _), (5, _), (6, _)]) [3, 4, 5, 6, 2, 1, 0] rfl ?_
          exact lp 101 0 _ _ _ _ (by omega) (Nat.zero_le _) rfl ⟨⟨h4, h12, h21⟩, hmis⟩ rfl
        · have hmis : S (2 * ix v) 0 = -1 := h35
          refine a_bipush C0 (-11) dX5_fits_38 rfl ?_
          refine a_iret C0 hr dX5_fits_40 ?_
          have hc : (isSh v ∧ isTl N x ∧ (0 ≤ k ∧ k ≤ 1)) := ⟨h4, h12, h21⟩
          exact tr_ (by rw [if_pos hc, if_pos hmis])
      · refine a_iconst C0 (-1) dX5_fits_24 rfl ?_
        refine a_iret C0 hr dX5_fits_25 ?_
        have hc : ¬ (isSh v ∧ isTl N x ∧ (0 ≤ k ∧ k ≤ 1)) := fun q => by
          first
            | exact h4 q.1
            | exact h12 q.2.1
            | exact h21 q.2.2
        exact tr_ (if_neg hc).symm
def sheR (v so y : Int32) : Int32 := if isSh v ∧ (-1 ≤ so ∧ so ≤ 3) then (if so = -1 then 1 else if 40 < y then -1 else if y < 0 then -14 else 1) else -1
def sheS (S : WM) (v so y : Int32) : WM := if isSh v ∧ (-1 ≤ so ∧ so ≤ 3) then (if so = -1 then setS S (ix v) (up2 (up2 (atS S (ix v)) 0 0 (-1)) 0 1 0) else if 40 < y then S else if y < 0 then S else setS S (ix v) (rowS (atS S (ix v)) so y)) else S
set_option maxRecDepth 100000 in
set_option maxHeartbeats 4000000 in
theorem c_X5_sheet (l : Launch) (G : GE) {ad : Nat → Nat} {M : WM} {O : Nat → Int32} {N K T B R S H Z : WM} {v so y : Int32} (hM : M = mkX O N K T B R S H Z)  : CT l G yX5_sheet cX5_sheet 4 (some .int) 2 [.ref (ad 0), .int v, .int so, .int y] 54 ad (shX G ad) M (PI (fun r u => r = sheR v so y ∧ u = (mkX O N K T B R (sheS S v so y) H Z))) := by
  refine CT.of (own := RX5) rfl rfl (le_b rfl) fun p e s m args below meth c A C0 hr => ?_
  refine AW.lo (ls2 := [(0, _), (1, _), (2, _), (3, _)]) rfl ?_
  subst hM
  refine a_iload_n C0 1 dX5_sheet_0 rfl rfl ?_
  refine a_callS _ 1 C0 EM.z (c_X5_isSheet l G) u_c_X5_isSheet u_m_X5_205 u_st_X5_isSheet u_in_X5 hy_X5_isSheet.2 (hRk rfl) rfl rfl (le_b rfl) dX5_sheet_1 (k_ro EM.z ?_)
  refine a_if_eqb C0 16 dX5_sheet_4 rfl (fun h4 => ?_) (fun h4 => ?_)
  · refine a_iconst C0 (-1) dX5_sheet_16 rfl ?_
    refine a_iret C0 hr dX5_sheet_17 ?_
    have hc : ¬ (isSh v ∧ (-1 ≤ so ∧ so ≤ 3)) := fun q => by
      first
        | exact h4 q.1
        | exact h13 q.2
    exact rd_ (by unfold sheR; rw [if_neg hc]) (by unfold sheS; rw [if_neg hc])
  · refine a_iload_n C0 2 dX5_sheet_7 rfl rfl ?_
    refine a_iconst C0 (-1) dX5_sheet_8 rfl ?_
    refine a_iconst C0 3 dX5_sheet_9 rfl ?_
    refine a_callS _ 3 C0 EM.z (c_X5_isWithin l G) u_c_X5_isWithin u_m_X5_55 u_st_X5_isWithin u_in_X5 hy_X5_isWithin.2 (hRk rfl) rfl rfl (le_b rfl) dX5_sheet_10 (k_ro EM.z ?_)
    refine a_if_neb C0 18 dX5_sheet_13 rfl (fun h13 => ?_) (fun h13 => ?_)
    · have hc : (isSh v ∧ (-1 ≤ so ∧ so ≤ 3)) := ⟨h4, h13⟩
      have hv4 := sh_in h4
      have hj : ix v < 4 := vp_lt hv4
      refine a_iload_n C0 2 dX5_sheet_18 rfl rfl ?_
      refine a_iconst C0 (-1) dX5_sheet_19 rfl ?_
      refine a_icmp_ne C0 34 dX5_sheet_20 rfl (fun h20 => ?_) (fun h20 => ?_)
      · refine a_iload_n C0 3 dX5_sheet_34 rfl rfl ?_
        refine a_bipush C0 40 dX5_sheet_35 rfl ?_
        refine a_icmp_le C0 42 dX5_sheet_37 rfl (fun h37 => ?_) (fun h37 => ?_)
        · refine a_iload_n C0 3 dX5_sheet_42 rfl rfl ?_
          refine a_if_ge C0 49 dX5_sheet_43 rfl (fun h43 => ?_) (fun h43 => ?_)
          · refine a_aload_n C0 0 dX5_sheet_49 rfl rfl ?_
            refine g_X5_36 C0 (lt_b rfl) rfl rfl dX5_sheet_50 ?_
            refine a_iload_n C0 1 dX5_sheet_53 rfl rfl ?_
            refine a_aald (t0 := 3) C0 (ix v) (39 + 2 * (ix v)) rfl rfl (lt_b rfl) rfl hv4 rfl (if_pos hj) dX5_sheet_54 ?_
            refine a_iload_n C0 2 dX5_sheet_55 rfl rfl ?_
            refine a_iload_n C0 3 dX5_sheet_56 rfl rfl ?_
            refine a_callV _ 2 C0 (em_XSj hj) (c_X2_becomeRow l G (by
  obtain ⟨q, hq, e⟩ := nI_of2 (M := 40) (n := 40) rfl (Int32.not_lt.mpr h43) h37
  rw [e]
  show (nI q).toNatClampNeg ≤ 40
  rw [nI_clamp (by omega)]
  exact hq) (ad := fun k => ad (39 + 2 * ix v + k))) u_c_X2_becomeRow u_m_X5_256 u_im_X2_becomeRow u_se_X2_becomeRow u_in_X2 hy_X2_becomeRow rfl (by omega) (shX_se hj _) (hRk rfl) rfl rfl (le_b rfl) dX5_sheet_57 (k_vo ?_)
            refine a_iconst C0 1 dX5_sheet_60 rfl ?_
            refine a_iret C0 hr dX5_sheet_61 ?_
            have h37 : ¬ 40 < y := Int32.not_lt.mpr h37
            have h43 : ¬ y < 0 := Int32.not_lt.mpr h43
            exact rd_ (by unfold sheR; rw [if_pos hc, if_neg h20, if_neg h37, if_neg h43]) (by unfold sheS; rw [if_pos hc, if_neg h20, if_neg h37, if_neg h43])
          · refine a_bipush C0 (-14) dX5_sheet_46 rfl ?_
            refine a_iret C0 hr dX5_sheet_48 ?_
            have h37 : ¬ 40 < y := Int32.not_lt.mpr h37
            have h43 : y < 0 := Int32.not_le.mp h43
            exact rd_ (by unfold sheR; rw [if_pos hc, if_neg h20, if_neg h37, if_pos h43]) (by unfold sheS; rw [if_pos hc, if_neg h20, if_neg h37, if_pos h43])
        · refine a_iconst C0 (-1) dX5_sheet_40 rfl ?_
          refine a_iret C0 hr dX5_sheet_41 ?_
          have h37 : 40 < y := Int32.not_le.mp h37
          exact rd_ (by unfold sheR; rw [if_pos hc, if_neg h20, if_pos h37]) (by unfold sheS; rw [if_pos hc, if_neg h20, if_pos h37])
      · refine a_aload_n C0 0 dX5_sheet_23 rfl rfl ?_
        refine g_X5_36 C0 (lt_b rfl) rfl rfl dX5_sheet_24 ?_
        refine a_iload_n C0 1 dX5_sheet_27 rfl rfl ?_
        refine a_aald (t0 := 3) C0 (ix v) (39 + 2 * (ix v)) rfl rfl (lt_b rfl) rfl hv4 rfl (if_pos hj) dX5_sheet_28 ?_
        refine a_callV _ 0 C0 (em_XSj hj) (c_X2_becomeMissing l G (ad := fun k => ad (39 + 2 * ix v + k))) u_c_X2_becomeMissing u_m_X5_253 u_im_X2_becomeMissing u_se_X2_becomeMissing u_in_X2 hy_X2_becomeMissing rfl (by omega) (shX_se hj _) (hRk rfl) rfl rfl (le_b rfl) dX5_sheet_29 (k_vo ?_)
        refine a_iconst C0 1 dX5_sheet_32 rfl ?_
        refine a_iret C0 hr dX5_sheet_33 ?_
        exact rd_ (by unfold sheR; rw [if_pos hc, if_pos h20]) (by unfold sheS; rw [if_pos hc, if_pos h20])
    · refine a_iconst C0 (-1) dX5_sheet_16 rfl ?_
      refine a_iret C0 hr dX5_sheet_17 ?_
      have hc : ¬ (isSh v ∧ (-1 ≤ so ∧ so ≤ 3)) := fun q => by
        first
          | exact h4 q.1
          | exact h13 q.2
      exact rd_ (by unfold sheR; rw [if_neg hc]) (by unfold sheS; rw [if_neg hc])
def putR (S : WM) (v i : Int32) : Int32 := if isSh v then (if S (2 * ix v) 0 = -1 then -11 else if (0 ≤ i ∧ i ≤ S (2 * ix v) 1 - 1) then 1 else -12) else -1
def putS (S : WM) (v i y : Int32) : WM := if isSh v then (if S (2 * ix v) 0 = -1 then S else if (0 ≤ i ∧ i ≤ S (2 * ix v) 1 - 1) then setS S (ix v) (up2 (atS S (ix v)) 1 (ix i) (narS (atS S (ix v)) y)) else S) else S
theorem mkX_S1u {O : Nat → Int32} {N K T B R S H Z : WM} {j i : Nat} {x : Int32} (h : j < 4) : ∀ c, c < 54 → up2 (mkX O N K T B R S H Z) (40 + 2 * j) i x c = mkX O N K T B R (setS S j (up2 (atS S j) 1 i x)) H Z c := by
  intro c hc
  rw [show 40 + 2 * j = 39 + (2 * j + 1) by omega, mkX_Su (by omega) c hc]
  refine congrFun (congrArg (fun q => mkX O N K T B R q H Z) ?_) c
  funext a b
  unfold up2 setS
  by_cases h0 : a = 2 * j
  · subst h0
    rw [if_neg (by omega), if_pos rfl]
    rfl
  · by_cases h1 : a = 2 * j + 1
    · subst h1
      rw [if_pos rfl, if_neg h0, if_pos rfl]
      rfl
    · rw [if_neg h1, if_neg h0, if_neg h1]

set_option maxRecDepth 100000 in
set_option maxHeartbeats 4000000 in
theorem c_X5_put (l : Launch) (G : GE) {ad : Nat → Nat} {M : WM} {O : Nat → Int32} {N K T B R S H Z : WM} {v i y : Int32} {cn : Nat} (hcn : ix v < 4 → S (2 * ix v) 1 = nI cn) (hcn40 : cn ≤ 40) (hM : M = mkX O N K T B R S H Z)  : CT l G yX5_put cX5_put 5 (some .int) 2 [.ref (ad 0), .int v, .int i, .int y] 54 ad (shX G ad) M (PI (fun r u => r = putR S v i ∧ u = (mkX O N K T B R (putS S v i y) H Z))) := by
  refine CT.of (own := RX5) rfl rfl (le_b rfl) fun p e s m args below meth c A C0 hr => ?_
  refine AW.lo (ls2 := [(0, _), (1, _), (2, _), (3, _)]) rfl ?_
  subst hM
  refine a_iload_n C0 1 dX5_put_0 rfl rfl ?_
  refine a_callS _ 1 C0 EM.z (c_X5_isSheet l G) u_c_X5_isSheet u_m_X5_205 u_st_X5_isSheet u_in_X5 hy_X5_isSheet.2 (hRk rfl) rfl rfl (le_b rfl) dX5_put_1 (k_ro EM.z ?_)
  refine a_if_neb C0 9 dX5_put_4 rfl (fun h4 => ?_) (fun h4 => ?_)
  · have hv4 := sh_in h4
    have hj : ix v < 4 := vp_lt hv4
    have hs0 := mkX_S0 (O := O) (N := N) (K := K) (T := T) (B := B) (R := R) (S := S) (H := H) (Z := Z) hj
    refine a_aload_n C0 0 dX5_put_9 rfl rfl ?_
    refine g_X5_36 C0 (lt_b rfl) rfl rfl dX5_put_10 ?_
    refine a_iload_n C0 1 dX5_put_13 rfl rfl ?_
    refine a_aald (t0 := 3) C0 (ix v) (39 + 2 * (ix v)) rfl rfl (lt_b rfl) rfl hv4 rfl (if_pos hj) dX5_put_14 ?_
    refine a_astore (ls2 := [(4, _), (0, _), (1, _), (2, _), (3, _)]) C0 dX5_put_15 (lt_b rfl) rfl ?_
    refine a_aload C0 0 dX5_put_17 rfl ?_
    refine a_callV _ 0 C0 (em_XSj hj) (c_X2_isMissing l G (ad := fun k => ad (39 + 2 * ix v + k))) u_c_X2_isMissing u_m_X5_208 u_im_X2_isMissing u_se_X2_isMissing u_in_X2 hy_X2_isMissing rfl (by omega) (shX_se hj _) (hRk rfl) rfl rfl (le_b rfl) dX5_put_19 (k_ro (em_XSj hj) ?_)
    refine a_if_eqb C0 28 dX5_put_22 rfl (fun h22 => ?_) (fun h22 => ?_)
    · have hmis : ¬ S (2 * ix v) 0 = -1 := h22
      refine a_iload_n C0 3 dX5_put_28 rfl rfl ?_
      refine a_iconst C0 0 dX5_put_29 rfl ?_
      refine a_aload C0 0 dX5_put_30 rfl ?_
      refine g_X5_216 C0 (by omega) (shX_se hj _) rfl dX5_put_32 ?_
      refine a_iconst C0 1 dX5_put_35 rfl ?_
      refine a_isub C0 dX5_put_36 ?_
      refine a_callS _ 3 C0 EM.z (c_X5_isWithin l G) u_c_X5_isWithin u_m_X5_55 u_st_X5_isWithin u_in_X5 hy_X5_isWithin.2 (hRk rfl) rfl rfl (le_b rfl) dX5_put_37 (k_ro EM.z ?_)
      refine a_if_neb C0 46 dX5_put_40 rfl (fun h40 => ?_) (fun h40 => ?_)
      · have hci : (0 ≤ i ∧ i ≤ S (2 * ix v) 1 - 1) := by
          rw [← hs0]
          exact h40
        have hix : IX i (ix i) 40 := IX.v (vp_le ((rng_N (hcn hj) (by omega)).mp hci) hcn40)
        refine a_aload C0 0 dX5_put_46 rfl ?_
        refine g_X5_217 C0 (by omega) (shX_se hj _) rfl dX5_put_48 ?_
        refine a_iload_n C0 3 dX5_put_51 rfl rfl ?_
        refine a_aload C0 0 dX5_put_52 rfl ?_
        refine a_iload_n C0 4 dX5_put_54 rfl rfl ?_
        refine a_callV _ 1 C0 (em_XSj hj) (c_X2_narrowed l G (ad := fun k => ad (39 + 2 * ix v + k))) u_c_X2_narrowed u_m_X5_259 u_im_X2_narrowed u_se_X2_narrowed u_in_X2 hy_X2_narrowed rfl (by omega) (shX_se hj _) (hRk rfl) rfl rfl (le_b rfl) dX5_put_55 (k_ro (em_XSj hj) ?_)
        refine a_iast C0 _ (by omega) (shX_si hj) hix.1 hix.2 dX5_put_58 ?_
        refine AW.cg (M := (mkX O N K T B R (setS S (ix v) (up2 (atS S (ix v)) 1 (ix i) (narS (atS S (ix v)) y))) H Z)) (mkX_S1u hj) ?_
        refine a_iconst C0 1 dX5_put_59 rfl ?_
        refine a_iret C0 hr dX5_put_60 ?_
        exact rd_ (by unfold putR; rw [if_pos h4, if_neg hmis, if_pos hci]) (by unfold putS; rw [if_pos h4, if_neg hmis, if_pos hci])
      · refine a_bipush C0 (-12) dX5_put_43 rfl ?_
        refine a_iret C0 hr dX5_put_45 ?_
        have hci : ¬ (0 ≤ i ∧ i ≤ S (2 * ix v) 1 - 1) := by
          rw [← hs0]
          exact h40
        exact rd_ (by unfold putR; rw [if_pos h4, if_neg hmis, if_neg hci]) (by unfold putS; rw [if_pos h4, if_neg hmis, if_neg hci])
    · refine a_bipush C0 (-11) dX5_put_25 rfl ?_
      refine a_iret C0 hr dX5_put_27 ?_
      have hmis : S (2 * ix v) 0 = -1 := h22
      exact rd_ (by unfold putR; rw [if_pos h4, if_pos hmis]) (by unfold putS; rw [if_pos h4, if_pos hmis])
  · refine a_iconst C0 (-1) dX5_put_7 rfl ?_
    refine a_iret C0 hr dX5_put_8 ?_
    exact rd_ (by unfold putR; rw [if_neg h4]) (by unfold putS; rw [if_neg h4])
def iteR (S : WM) (v so i : Int32) : Int32 := if (isSh v ∧ (0 ≤ so ∧ so ≤ 3)) then (if S (2 * ix v) 0 = -1 then -11 else if S (2 * ix v) 0 = so then (if (0 ≤ i ∧ i ≤ S (2 * ix v) 1 - 1) then S (2 * ix v + 1) (ix i) else -12) else -13) else -1
set_option maxRecDepth 100000 in
set_option maxHeartbeats 4000000 in
theorem c_X5_item (l : Launch) (G : GE) {ad : Nat → Nat} {M : WM} {O : Nat → Int32} {N K T B R S H Z : WM} {v so i : Int32} {cn : Nat} (hcn : ix v < 4 → S (2 * ix v) 1 = nI cn) (hcn40 : cn ≤ 40) (hM : M = mkX O N K T B R S H Z)  : CT l G yX5_item cX5_item 5 (some .int) 2 [.ref (ad 0), .int v, .int so, .int i] 54 ad (shX G ad) M (PI (fun r u => r = iteR S v so i ∧ u = M)) := by
  refine CT.of (own := RX5) rfl rfl (le_b rfl) fun p e s m args below meth c A C0 hr => ?_
  refine AW.lo (ls2 := [(0, _), (1, _), (2, _), (3, _)]) rfl ?_
  subst hM
  refine a_iload_n C0 1 dX5_item_0 rfl rfl ?_
  refine a_callS _ 1 C0 EM.z (c_X5_isSheet l G) u_c_X5_isSheet u_m_X5_205 u_st_X5_isSheet u_in_X5 hy_X5_isSheet.2 (hRk rfl) rfl rfl (le_b rfl) dX5_item_1 (k_ro EM.z ?_)
  refine a_if_eqb C0 16 dX5_item_4 rfl (fun h4 => ?_) (fun h4 => ?_)
  · refine a_iconst C0 (-1) dX5_item_16 rfl ?_
    refine a_iret C0 hr dX5_item_17 ?_
    have hc : ¬ (isSh v ∧ (0 ≤ so ∧ so ≤ 3)) := fun q => by
      first
        | exact h4 q.1
        | exact h13 q.2
    exact rt_ (by unfold iteR; rw [if_neg hc])
  · refine a_iload_n C0 2 dX5_item_7 rfl rfl ?_
    refine a_iconst C0 0 dX5_item_8 rfl ?_
    refine a_iconst C0 3 dX5_item_9 rfl ?_
    refine a_callS _ 3 C0 EM.z (c_X5_isWithin l G) u_c_X5_isWithin u_m_X5_55 u_st_X5_isWithin u_in_X5 hy_X5_isWithin.2 (hRk rfl) rfl rfl (le_b rfl) dX5_item_10 (k_ro EM.z ?_)
    refine a_if_neb C0 18 dX5_item_13 rfl (fun h13 => ?_) (fun h13 => ?_)
    · have hc : (isSh v ∧ (0 ≤ so ∧ so ≤ 3)) := ⟨h4, h13⟩
      have hv4 := sh_in h4
      have hj : ix v < 4 := vp_lt hv4
      have hs0 := mkX_S0 (O := O) (N := N) (K := K) (T := T) (B := B) (R := R) (S := S) (H := H) (Z := Z) hj
      have hs1 := mkX_S1 (O := O) (N := N) (K := K) (T := T) (B := B) (R := R) (S := S) (H := H) (Z := Z) hj
      refine a_aload_n C0 0 dX5_item_18 rfl rfl ?_
      refine g_X5_36 C0 (lt_b rfl) rfl rfl dX5_item_19 ?_
      refine a_iload_n C0 1 dX5_item_22 rfl rfl ?_
      refine a_aald (t0 := 3) C0 (ix v) (39 + 2 * (ix v)) rfl rfl (lt_b rfl) rfl hv4 rfl (if_pos hj) dX5_item_23 ?_
      refine a_astore (ls2 := [(4, _), (0, _), (1, _), (2, _), (3, _)]) C0 dX5_item_24 (lt_b rfl) rfl ?_
      refine a_aload C0 0 dX5_item_26 rfl ?_
      refine a_callV _ 0 C0 (em_XSj hj) (c_X2_isMissing l G (ad := fun k => ad (39 + 2 * ix v + k))) u_c_X2_isMissing u_m_X5_208 u_im_X2_isMissing u_se_X2_isMissing u_in_X2 hy_X2_isMissing rfl (by omega) (shX_se hj _) (hRk rfl) rfl rfl (le_b rfl) dX5_item_28 (k_ro (em_XSj hj) ?_)
      refine a_if_eqb C0 37 dX5_item_31 rfl (fun h31 => ?_) (fun h31 => ?_)
      · have hmis : ¬ S (2 * ix v) 0 = -1 := h31
        refine a_aload C0 0 dX5_item_37 rfl ?_
        refine g_X5_247 C0 (by omega) (shX_se hj _) rfl dX5_item_39 ?_
        refine a_iload_n C0 3 dX5_item_42 rfl rfl ?_
        refine a_icmp_eq C0 49 dX5_item_43 rfl (fun h43 => ?_) (fun h43 => ?_)
        · have hso : S (2 * ix v) 0 = so := by
            rw [← hs0]
            exact h43
          refine a_iload_n C0 4 dX5_item_49 rfl rfl ?_
          refine a_iconst C0 0 dX5_item_50 rfl ?_
          refine a_aload C0 0 dX5_item_51 rfl ?_
          refine g_X5_216 C0 (by omega) (shX_se hj _) rfl dX5_item_53 ?_
          refine a_iconst C0 1 dX5_item_56 rfl ?_
          refine a_isub C0 dX5_item_57 ?_
          refine a_callS _ 3 C0 EM.z (c_X5_isWithin l G) u_c_X5_isWithin u_m_X5_55 u_st_X5_isWithin u_in_X5 hy_X5_isWithin.2 (hRk rfl) rfl rfl (le_b rfl) dX5_item_58 (k_ro EM.z ?_)
          refine a_if_eqb C0 74 dX5_item_61 rfl (fun h61 => ?_) (fun h61 => ?_)
          · refine a_bipush C0 (-12) dX5_item_74 rfl ?_
            refine a_iret C0 hr dX5_item_76 ?_
            first
              | exact rt_ (by unfold iteR; rw [if_pos hc, if_neg hmis, if_pos hso, if_pos hci, hs1])
              | (have hci : ¬ (0 ≤ i ∧ i ≤ S (2 * ix v) 1 - 1) := by
                   rw [← hs0]
                   exact h61
                 exact rt_ (by unfold iteR; rw [if_pos hc, if_neg hmis, if_pos hso, if_neg hci]))
          · have hci : (0 ≤ i ∧ i ≤ S (2 * ix v) 1 - 1) := by
              rw [← hs0]
              exact h61
            have hix : IX i (ix i) 40 := IX.v (vp_le ((rng_N (hcn hj) (by omega)).mp hci) hcn40)
            refine a_aload C0 0 dX5_item_64 rfl ?_
            refine g_X5_217 C0 (by omega) (shX_se hj _) rfl dX5_item_66 ?_
            refine a_iload_n C0 4 dX5_item_69 rfl rfl ?_
            refine a_iald C0 _ (by omega) (shX_si hj _) hix.1 hix.2 dX5_item_70 ?_
            refine a_goto C0 76 dX5_item_71 rfl ?_
            refine a_iret C0 hr dX5_item_76 ?_
            first
              | exact rt_ (by unfold iteR; rw [if_pos hc, if_neg hmis, if_pos hso, if_pos hci, hs1])
              | (have hci : ¬ (0 ≤ i ∧ i ≤ S (2 * ix v) 1 - 1) := by
                   rw [← hs0]
                   exact h61
                 exact rt_ (by unfold iteR; rw [if_pos hc, if_neg hmis, if_pos hso, if_neg hci]))
        · refine a_bipush C0 (-13) dX5_item_46 rfl ?_
          refine a_iret C0 hr dX5_item_48 ?_
          have hso : ¬ S (2 * ix v) 0 = so := by
            rw [← hs0]
            exact h43
          exact rt_ (by unfold iteR; rw [if_pos hc, if_neg hmis, if_neg hso])
      · refine a_bipush C0 (-11) dX5_item_34 rfl ?_
        refine a_iret C0 hr dX5_item_36 ?_
        have hmis : S (2 * ix v) 0 = -1 := h31
        exact rt_ (by unfold iteR; rw [if_pos hc, if_pos hmis])
    · refine a_iconst C0 (-1) dX5_item_16 rfl ?_
      refine a_iret C0 hr dX5_item_17 ?_
      have hc : ¬ (isSh v ∧ (0 ≤ so ∧ so ≤ 3)) := fun q => by
        first
          | exact h4 q.1
          | exact h13 q.2
      exact rt_ (by unfold iteR; rw [if_neg hc])
