
/-- a row as at first but for what is drawn by -/
def begB (z : Int32) : RW := fun k => if k = 2 then z else if k = 3 then 3 else if k = 4 then 2 else if k = 6 then 20 else 0
theorem rp_first {S : RW} {z : Int32} (P0 : WM) (h7 : ∀ k, k < 7 → S k = begB z k) (hf : ∀ h, h < 8 → S (7 + h) = nI ((h + 1) % 8)) (ht : ∀ h, h < 8 → S (15 + h) = 1) (h0 : ∀ k, 23 ≤ k → k < 63 → S k = 0) : RP (up2 (firstP P0) 0 10 z) S 0 0 :=
  RP.mk (n1 := rfl) (n2 := h7 0 (by decide)) (t8 := by decide) (m1 := rfl) (m2 := h7 1 (by decide)) (z := h7 2 (by decide))
    (law := fun i hi => by
      rw [h7 _ (by omega)]
      match i, hi with
      | 0, _ => rfl
      | 1, _ => rfl
      | 2, _ => rfl
      | 3, _ => rfl)
    (fr := hf) (ta := ht)
    (bx := fun h hh => by
      rw [h0 _ (by omega) (by omega)]
      match h, hh with
      | 0, _ => exact (show (0 : Int32) = (0 >>> (nI 0 &&& 31)) &&& 1 by decide)
      | 1, _ => exact (show (0 : Int32) = (0 >>> (nI 1 &&& 31)) &&& 1 by decide)
      | 2, _ => exact (show (0 : Int32) = (0 >>> (nI 2 &&& 31)) &&& 1 by decide)
      | 3, _ => exact (show (0 : Int32) = (0 >>> (nI 3 &&& 31)) &&& 1 by decide)
      | 4, _ => exact (show (0 : Int32) = (0 >>> (nI 4 &&& 31)) &&& 1 by decide)
      | 5, _ => exact (show (0 : Int32) = (0 >>> (nI 5 &&& 31)) &&& 1 by decide)
      | 6, _ => exact (show (0 : Int32) = (0 >>> (nI 6 &&& 31)) &&& 1 by decide)
      | 7, _ => exact (show (0 : Int32) = (0 >>> (nI 7 &&& 31)) &&& 1 by decide))
    (of := fun t j ht _ => absurd ht (Nat.not_lt_zero t))
    (frw := fun k hk => show vp_in (nI ((k + 1) % 8)) 8 from vp_in_nI (Nat.mod_lt _ (by decide)) (by decide))
    (atw := fun t ht => absurd ht (Nat.not_lt_zero t)) (hew := fun t ht => absurd ht (Nat.not_lt_zero t)) (hdw := fun t ht => absurd ht (Nat.not_lt_zero t)) (kdw := fun t ht => absurd ht (Nat.not_lt_zero t))
    (bxw := vq rfl) (lw := vq rfl)

set_option maxRecDepth 100000 in
set_option maxHeartbeats 4000000 in
theorem c_X6_begins (l : Launch) (G : GE) {ad : Nat → Nat} {M : WM} {O S : RW} {X : WM} (hM : M = mkM O S X)  : CT l G yX6_begins cX6_begins 3 none 0 [.ref (ad 0)] 14 ad (shM G ad) M (PV (fun u => ∃ S', u = mkM O S' X ∧ ∀ P0, RP (up2 (firstP P0) 0 10 (S 2)) S' 0 0)) := by
  refine CT.of (own := RX6) rfl rfl (le_b rfl) fun p e s m args below meth c A C0 hr => ?_
  refine AW.lo (ls2 := [(0, _)]) rfl ?_
  subst hM
  have l60 : ∀ (n : Nat) (i : Nat) (xi : Int32) (S1 : RW), 8 - i < n → (i ≤ 8) → (xi = nI i) → (∀ k, k < 7 → S1 k = begB (S 2) k) → (∀ h, h < i → S1 (7 + h) = nI ((h + 1) % 8)) → (∀ h, h < i → S1 (15 + h) = 1) → (∀ k, 23 ≤ k → k < 63 → S1 k = 0) → AW p l e (rmk 0) s m args below meth c G A 14 ad (shM G ad) 3 0 0 (MQ below (CQ G 14 ad (shM G ad) A (PV (fun u => ∃ S', u = mkM O S' X ∧ ∀ P0, RP (up2 (firstP P0) 0 10 (S 2)) S' 0 0))) args s 0 0 A) 60 [(0, .ref (ad 0)), (1, .int (S 2)), (2, .int xi)] [] (mkM O S1 X) := by
    intro n
    induction n with
    | zero =>
      intro i xi S1 hn
      exact absurd hn (Nat.not_lt_zero _)
    | succ n ih =>
      intro i xi S1 hn hi hxi g7 gf gt g0
      refine a_iload_n C0 2 dX6_begins_60 rfl rfl ?_
      refine a_bipush C0 8 dX6_begins_61 rfl ?_
      refine a_icmp_ge C0 97 dX6_begins_63 rfl (fun h63 => ?_) (fun h63 => ?_)
      · refine a_vret C0 hr dX6_begins_97 ?_
        have e : i = 8 := Nat.le_antisymm hi (i_ge (T := 8) hxi rfl (by omega) (by omega) h63)
        subst e
        exact ⟨rfl, _, rfl, fun P0 => rp_first P0 g7 gf gt g0⟩
      · have hlt : i < 8 := i_lt (T := 8) hxi rfl (by omega) (by omega) h63
        have hx7 := (IX.eqn hxi hlt (by decide)).pl (bb := 7) 7 rfl (by decide)
        have hx15 := (IX.eqn hxi hlt (by decide)).pl (bb := 15) 15 rfl (by decide)
        refine a_aload_n C0 0 dX6_begins_66 rfl rfl ?_
        refine g_X6_7 C0 (lt_b rfl) rfl rfl dX6_begins_67 ?_
        refine a_bipush C0 7 dX6_begins_70 rfl ?_
        refine a_iload_n C0 2 dX6_begins_72 rfl rfl ?_
        refine a_iadd C0 dX6_begins_73 ?_
        refine a_iload_n C0 2 dX6_begins_74 rfl rfl ?_
        refine a_iconst C0 1 dX6_begins_75 rfl ?_
        refine a_iadd C0 dX6_begins_76 ?_
        refine a_bipush C0 8 dX6_begins_77 rfl ?_
        refine a_irem C0 dX6_begins_79 (by decide) ?_
        refine a_iast C0 _ (lt_b rfl) (fun _ => rfl) (vp_le hx7.1 (by decide)) hx7.2 dX6_begins_80 ?_
        refine a_aload_n C0 0 dX6_begins_81 rfl rfl ?_
        refine g_X6_7 C0 (lt_b rfl) rfl rfl dX6_begins_82 ?_
        refine a_bipush C0 15 dX6_begins_85 rfl ?_
        refine a_iload_n C0 2 dX6_begins_87 rfl rfl ?_
        refine a_iadd C0 dX6_begins_88 ?_
        refine a_iconst C0 1 dX6_begins_89 rfl ?_
        refine a_iast C0 _ (lt_b rfl) (fun _ => rfl) (vp_le hx15.1 (by decide)) hx15.2 dX6_begins_90 ?_
        refine a_iinc (ls2 := [(2, _), (0, _), (1, _)]) C0 2 1 dX6_begins_91 rfl rfl (lt_b rfl) rfl ?_
        refine a_goto C0 60 dX6_begins_94 rfl ?_
        refine AW.sub (ls2 := [(0, _), (1, _), (2, _)]) [1, 2, 0] rfl ?_
        rw [mkM_S, mkM_S]
        refine ih (i + 1) _ _ (by omega) hlt (by rw [hxi, nI_1]) (fun k hk => ?_) (fun h hh => ?_) (fun h hh => ?_) (fun k h1 h2 => ?_)
        · rw [up_ne (by omega), up_ne (by omega)]
          exact g7 k hk
        · rw [up_ne (by omega)]
          by_cases e : h = i
          · rw [e, up_eq, hxi, nI_1]
            exact pk_rem (by omega) (by decide) (by decide)
          · rw [up_ne (by omega)]
            exact gf h (by omega)
        · by_cases e : h = i
          · rw [e, up_eq]
          · rw [up_ne (by omega), up_ne (by omega)]
            exact gt h (by omega)
        · rw [up_ne (by omega), up_ne (by omega)]
          exact g0 k h1 h2
  have f28 : ∀ (S1 : RW) (xi : Int32), (∀ k, k < 63 → S1 k = 0) → AW p l e (rmk 0) s m args below meth c G A 14 ad (shM G ad) 3 0 0 (MQ below (CQ G 14 ad (shM G ad) A (PV (fun u => ∃ S', u = mkM O S' X ∧ ∀ P0, RP (up2 (firstP P0) 0 10 (S 2)) S' 0 0))) args s 0 0 A) 28 [(0, .ref (ad 0)), (1, .int (S 2)), (2, .int xi)] [] (mkM O S1 X) := by
    intro S1 xi gz
    refine a_aload_n C0 0 dX6_begins_28 rfl rfl ?_
    refine g_X6_7 C0 (lt_b rfl) rfl rfl dX6_begins_29 ?_
    refine a_iconst C0 2 dX6_begins_32 rfl ?_
    refine a_iload_n C0 1 dX6_begins_33 rfl rfl ?_
    refine a_iast C0 2 (lt_b rfl) (fun _ => rfl) (vq rfl) rfl dX6_begins_34 ?_
    refine a_aload_n C0 0 dX6_begins_35 rfl rfl ?_
    refine g_X6_7 C0 (lt_b rfl) rfl rfl dX6_begins_36 ?_
    refine a_iconst C0 3 dX6_begins_39 rfl ?_
    refine a_iconst C0 3 dX6_begins_40 rfl ?_
    refine a_iast C0 3 (lt_b rfl) (fun _ => rfl) (vq rfl) rfl dX6_begins_41 ?_
    refine a_aload_n C0 0 dX6_begins_42 rfl rfl ?_
    refine g_X6_7 C0 (lt_b rfl) rfl rfl dX6_begins_43 ?_
    refine a_iconst C0 4 dX6_begins_46 rfl ?_
    refine a_iconst C0 2 dX6_begins_47 rfl ?_
    refine a_iast C0 4 (lt_b rfl) (fun _ => rfl) (vq rfl) rfl dX6_begins_48 ?_
    refine a_aload_n C0 0 dX6_begins_49 rfl rfl ?_
    refine g_X6_7 C0 (lt_b rfl) rfl rfl dX6_begins_50 ?_
    refine a_bipush C0 6 dX6_begins_53 rfl ?_
    refine a_bipush C0 20 dX6_begins_55 rfl ?_
    refine a_iast C0 6 (lt_b rfl) (fun _ => rfl) (vq rfl) rfl dX6_begins_57 ?_
    refine a_iconst C0 0 dX6_begins_58 rfl ?_
    refine a_istore_n (ls2 := [(2, _), (0, _), (1, _)]) C0 dX6_begins_59 rfl (lt_b rfl) rfl ?_
    refine AW.sub (ls2 := [(0, _), (1, _), (2, _)]) [1, 2, 0] rfl ?_
    rw [mkM_S, mkM_S, mkM_S, mkM_S]
    refine l60 9 0 _ _ (by omega) (Nat.zero_le _) rfl (fun k hk => ?_) (fun h hh => absurd hh (Nat.not_lt_zero h)) (fun h hh => absurd hh (Nat.not_lt_zero h)) (fun k h1 h2 => ?_)
    · show (if k = 6 then 20 else if k = 4 then 2 else if k = 3 then 3 else if k = 2 then S 2 else S1 k) = begB (S 2) k
      rw [gz k (by omega)]
      unfold begB
      match k, hk with
      | 0, _ => rfl
      | 1, _ => rfl
      | 2, _ => rfl
      | 3, _ => rfl
      | 4, _ => rfl
      | 5, _ => rfl
      | 6, _ => rfl
    · rw [up_ne (by omega), up_ne (by omega), up_ne (by omega), up_ne (by omega)]
      exact gz k h2
  have l9 : ∀ (n : Nat) (i : Nat) (xi : Int32) (S1 : RW), 63 - i < n → (i ≤ 63) → (xi = nI i) → (∀ k, k < i → S1 k = 0) → AW p l e (rmk 0) s m args below meth c G A 14 ad (shM G ad) 3 0 0 (MQ below (CQ G 14 ad (shM G ad) A (PV (fun u => ∃ S', u = mkM O S' X ∧ ∀ P0, RP (up2 (firstP P0) 0 10 (S 2)) S' 0 0))) args s 0 0 A) 9 [(0, .ref (ad 0)), (1, .int (S 2)), (2, .int xi)] [] (mkM O S1 X) := by
    intro n
    induction n with
    | zero =>
      intro i xi S1 hn
      exact absurd hn (Nat.not_lt_zero _)
    | succ n ih =>
      intro i xi S1 hn hi hxi gz
      refine a_iload_n C0 2 dX6_begins_9 rfl rfl ?_
      refine a_bipush C0 63 dX6_begins_10 rfl ?_
      refine a_icmp_ge C0 28 dX6_begins_12 rfl (fun h12 => ?_) (fun h12 => ?_)
      · have e : i = 63 := Nat.le_antisymm hi (i_ge (T := 63) hxi rfl (by omega) (by omega) h12)
        subst e
        exact f28 S1 xi gz
      · have hlt : i < 63 := i_lt (T := 63) hxi rfl (by omega) (by omega) h12
        have hx : IX xi i 63 := IX.eqn hxi hlt (by decide)
        refine a_aload_n C0 0 dX6_begins_15 rfl rfl ?_
        refine g_X6_7 C0 (lt_b rfl) rfl rfl dX6_begins_16 ?_
        refine a_iload_n C0 2 dX6_begins_19 rfl rfl ?_
        refine a_iconst C0 0 dX6_begins_20 rfl ?_
        refine a_iast C0 _ (lt_b rfl) (fun _ => rfl) hx.1 hx.2 dX6_begins_21 ?_
        refine a_iinc (ls2 := [(2, _), (0, _), (1, _)]) C0 2 1 dX6_begins_22 rfl rfl (lt_b rfl) rfl ?_
        refine a_goto C0 9 dX6_begins_25 rfl ?_
        refine AW.sub (ls2 := [(0, _), (1, _), (2, _)]) [1, 2, 0] rfl ?_
        rw [mkM_S]
        exact ih (i + 1) _ _ (by omega) hlt (by rw [hxi, nI_1]) (fun k hk => by
          by_cases e : k = i
          · rw [e, up_eq]
          · rw [up_ne e]
            exact gz k (by omega))
  refine a_aload_n C0 0 dX6_begins_0 rfl rfl ?_
  refine g_X6_7 C0 (lt_b rfl) rfl rfl dX6_begins_1 ?_
  refine a_iconst C0 2 dX6_begins_4 rfl ?_
  refine a_iald C0 2 (lt_b rfl) rfl (vq rfl) rfl dX6_begins_5 ?_
  refine a_istore_n (ls2 := [(1, _), (0, _)]) C0 dX6_begins_6 rfl (lt_b rfl) rfl ?_
  refine a_iconst C0 0 dX6_begins_7 rfl ?_
  refine a_istore_n (ls2 := [(2, _), (1, _), (0, _)]) C0 dX6_begins_8 rfl (lt_b rfl) rfl ?_
  refine AW.sub (ls2 := [(0, _), (1, _), (2, _)]) [2, 1, 0] rfl ?_
  exact l9 64 0 _ _ (by omega) (Nat.zero_le _) rfl (fun k hk => absurd hk (Nat.not_lt_zero k))
set_option maxRecDepth 100000 in
set_option maxHeartbeats 4000000 in
theorem c_X6_parish (l : Launch) (G : GE) {ad : Nat → Nat} {M : WM} {O S : RW} {X : WM} {P : WM} {nT mm : Nat} (rp : RP P S nT mm) {b : RW} {n : Nat} {Q0 : WM} (h0 : BT O X b n) (hM : M = mkM O S X)  : CT l G yX6_parish cX6_parish 1 (some .int) 6 [.ref (ad 0)] 14 ad (shM G ad) M (PI (fun r u => r = (if (rdI b n (n + 1) (up2 (firstP Q0) 0 10 (P 0 10)) (tk b n 0)).1 < 0 then (rdI b n (n + 1) (up2 (firstP Q0) 0 10 (P 0 10)) (tk b n 0)).2 0 8 else -100 - (rdI b n (n + 1) (up2 (firstP Q0) 0 10 (P 0 10)) (tk b n 0)).1) ∧ ∃ O' S' X', u = mkM O' S' X' ∧ (∀ c, c ≠ 4 → X' c = X c) ∧ O' 6 = 0 ∧ (∀ j, j < 6 ∨ (11 < j ∧ j ≠ 13) → O' j = O j) ∧ O' 13 = (if (rdI b n (n + 1) (up2 (firstP Q0) 0 10 (P 0 10)) (tk b n 0)).1 < 0 then 0 else O 13) ∧ ∃ T2 m2, RP (if (rdI b n (n + 1) (up2 (firstP Q0) 0 10 (P 0 10)) (tk b n 0)).1 < 0 then (rdI b n (n + 1) (up2 (firstP Q0) 0 10 (P 0 10)) (tk b n 0)).2 else P) S' T2 m2 ∧ m2 ≤ mm)) := by
  refine CT.of (own := RX6) rfl rfl (le_b rfl) fun p e s m args below meth c A C0 hr => ?_
  refine AW.lo (ls2 := [(0, _)]) rfl ?_
  subst hM
  have bX : BT O (stX X 4 (cp63 S (X 4))) b n := ⟨h0.1, h0.2.1, h0.2.2⟩
  have f50 : ∀ (O1 S1 : RW) (R : RS), EqW O O1 → MR O1 S1 b n R → (R.1 = true → (rdI b n (n + 1) (up2 (firstP Q0) 0 10 (P 0 10)) (tk b n 0)) = (-1, R.2.1)) → (¬ R.1 = true → (rdI b n (n + 1) (up2 (firstP Q0) 0 10 (P 0 10)) (tk b n 0)).1 = nI R.2.2.2.1) → AW p l e (rmk 6) s m args below meth c G A 14 ad (shM G ad) 1 0 0 (MQ below (CQ G 14 ad (shM G ad) A (PI (fun r u => r = (if (rdI b n (n + 1) (up2 (firstP Q0) 0 10 (P 0 10)) (tk b n 0)).1 < 0 then (rdI b n (n + 1) (up2 (firstP Q0) 0 10 (P 0 10)) (tk b n 0)).2 0 8 else -100 - (rdI b n (n + 1) (up2 (firstP Q0) 0 10 (P 0 10)) (tk b n 0)).1) ∧ ∃ O' S' X', u = mkM O' S' X' ∧ (∀ c, c ≠ 4 → X' c = X c) ∧ O' 6 = 0 ∧ (∀ j, j < 6 ∨ (11 < j ∧ j ≠ 13) → O' j = O j) ∧ O' 13 = (if (rdI b n (n + 1) (up2 (firstP Q0) 0 10 (P 0 10)) (tk b n 0)).1 < 0 then 0 else O 13) ∧ ∃ T2 m2, RP (if (rdI b n (n + 1) (up2 (firstP Q0) 0 10 (P 0 10)) (tk b n 0)).1 < 0 then (rdI b n (n + 1) (up2 (firstP Q0) 0 10 (P 0 10)) (tk b n 0)).2 else P) S' T2 m2 ∧ m2 ≤ mm))) args s 0 0 A) 50 [(0, .ref (ad 0))] [] (mkM O1 S1 (stX X 4 (cp63 S (X 4)))) := by
    intro O1 S1 R eW h1 hr1 hr2
    have hn2 := h0.2.1
    refine a_aload_n C0 0 dX6_parish_50 rfl rfl ?_
    refine a_iconst C0 0 dX6_parish_51 rfl ?_
    refine p_X6_58 C0 (lt_b rfl) rfl (lt_b rfl) rfl rfl dX6_parish_52 ?_
    rw [mkM_O]
    refine a_aload_n C0 0 dX6_parish_55 rfl rfl ?_
    refine g_X6_87 C0 (lt_b rfl) rfl rfl dX6_parish_56 ?_
    refine a_if_eq C0 81 dX6_parish_59 rfl (fun h59 => ?_) (fun h59 => ?_)
    · refine a_aload_n C0 0 dX6_parish_81 rfl rfl ?_
      refine a_iconst C0 0 dX6_parish_82 rfl ?_
      refine p_X6_151 C0 (lt_b rfl) rfl (lt_b rfl) rfl rfl dX6_parish_83 ?_
      rw [mkM_O]
      refine a_aload_n C0 0 dX6_parish_86 rfl rfl ?_
      refine g_X6_7 C0 (lt_b rfl) rfl rfl dX6_parish_87 ?_
      refine a_iconst C0 0 dX6_parish_90 rfl ?_
      refine a_iald C0 0 (lt_b rfl) rfl (vq rfl) rfl dX6_parish_91 ?_
      refine a_iret C0 hr dX6_parish_92 ?_
      have hR : R.1 = true := h1.ok.mp h59
      have hv := hr1 hR
      obtain ⟨g11, gk, T, gr⟩ := h1.1 hR
      have hlt : (rdI b n (n + 1) (up2 (firstP Q0) 0 10 (P 0 10)) (tk b n 0)).1 < 0 := by
        rw [hv]
        exact (show (-1 : Int32) < 0 by decide)
      refine ⟨_, rfl, ?_, _, _, _, rfl, fun c hc => if_neg hc, rfl, fun j hj => ?_, ?_, T, 0, ?_, Nat.zero_le _⟩
      · rw [if_pos hlt, hv]
        exact gr.n2.trans gr.n1.symm
      · rw [up_ne (by omega), up_ne (by omega)]
        exact eW j (by omega)
      · rw [if_pos hlt]
        rfl
      · rw [if_pos hlt, hv]
        exact gr
    · refine a_aload_n C0 0 dX6_parish_62 rfl rfl ?_
      refine g_X6_19 C0 (lt_b rfl) rfl rfl dX6_parish_63 ?_
      refine a_aload_n C0 0 dX6_parish_66 rfl rfl ?_
      refine g_X6_7 C0 (lt_b rfl) rfl rfl dX6_parish_67 ?_
      refine a_callS _ 2 C0 em_MC41 (c_X6_copyRow l G (ad := fun k => ad (io2 4 1 1 k))) u_c_X6_copyRow u_m_X6_144 u_st_X6_copyRow u_in_X6 hy_X6_copyRow.2 (hRk rfl) rfl rfl (le_b rfl) dX6_parish_70 (k_vo ?_)
      refine AW.cg (M := mkM (upS O1 6 0) (cp63 ((stX X 4 (cp63 S (X 4))) 4) S1) (stX (stX X 4 (cp63 S (X 4))) 4 ((stX X 4 (cp63 S (X 4))) 4))) (fun q _ => by match q with | 0 => rfl | 1 => rfl | q + 2 => rfl) ?_
      refine a_bipush C0 (-100) dX6_parish_73 rfl ?_
      refine a_aload_n C0 0 dX6_parish_75 rfl rfl ?_
      refine g_X6_67 C0 (lt_b rfl) rfl rfl dX6_parish_76 ?_
      refine a_isub C0 dX6_parish_79 ?_
      refine a_iret C0 hr dX6_parish_80 ?_
      have hR : ¬ R.1 = true := fun c => h59 (h1.ok.mpr c)
      have hv := hr2 hR
      have hlt : ¬ (rdI b n (n + 1) (up2 (firstP Q0) 0 10 (P 0 10)) (tk b n 0)).1 < 0 := by
        rw [hv]
        exact ng_ (by have := h1.2.2.2; omega)
      refine ⟨_, rfl, ?_, _, _, _, rfl, fun c hc => ?_, rfl, fun j hj => ?_, ?_, nT, mm, ?_, Nat.le_refl _⟩
      · rw [if_neg hlt, hv]
        exact congrArg (fun q => -100 - q) h1.2.2.1
      · exact (if_neg hc).trans (if_neg hc)
      · rw [up_ne (by omega)]
        exact eW j (by omega)
      · rw [if_neg hlt, up_ne (by omega)]
        exact eW 13 (by omega)
      · rw [if_neg hlt]
        exact rp.eqS fun k hk => by
          rw [cp_lt hk]
          exact cp_lt hk
  have l29 : ∀ (z : Nat) (f : Nat) (O1 S1 : RW) (R : RS), f < z → (EqW O O1) → (MR O1 S1 b n R) → (R.1 = true → rdI b n f R.2.1 R.2.2 = (rdI b n (n + 1) (up2 (firstP Q0) 0 10 (P 0 10)) (tk b n 0)) ∧ n + 1 ≤ f + R.2.2.2.1) → (¬ R.1 = true → (rdI b n (n + 1) (up2 (firstP Q0) 0 10 (P 0 10)) (tk b n 0)).1 = nI R.2.2.2.1) → AW p l e (rmk 6) s m args below meth c G A 14 ad (shM G ad) 1 0 0 (MQ below (CQ G 14 ad (shM G ad) A (PI (fun r u => r = (if (rdI b n (n + 1) (up2 (firstP Q0) 0 10 (P 0 10)) (tk b n 0)).1 < 0 then (rdI b n (n + 1) (up2 (firstP Q0) 0 10 (P 0 10)) (tk b n 0)).2 0 8 else -100 - (rdI b n (n + 1) (up2 (firstP Q0) 0 10 (P 0 10)) (tk b n 0)).1) ∧ ∃ O' S' X', u = mkM O' S' X' ∧ (∀ c, c ≠ 4 → X' c = X c) ∧ O' 6 = 0 ∧ (∀ j, j < 6 ∨ (11 < j ∧ j ≠ 13) → O' j = O j) ∧ O' 13 = (if (rdI b n (n + 1) (up2 (firstP Q0) 0 10 (P 0 10)) (tk b n 0)).1 < 0 then 0 else O 13) ∧ ∃ T2 m2, RP (if (rdI b n (n + 1) (up2 (firstP Q0) 0 10 (P 0 10)) (tk b n 0)).1 < 0 then (rdI b n (n + 1) (up2 (firstP Q0) 0 10 (P 0 10)) (tk b n 0)).2 else P) S' T2 m2 ∧ m2 ≤ mm))) args s 0 0 A) 29 [(0, .ref (ad 0))] [] (mkM O1 S1 (stX X 4 (cp63 S (X 4)))) := by
    intro z
    induction z with
    | zero =>
      intro f O1 S1 R hn
      exact absurd hn (Nat.not_lt_zero _)
    | succ z ih =>
      intro f O1 S1 R hn eW h1 hr1 hr2
      refine a_aload_n C0 0 dX6_parish_29 rfl rfl ?_
      refine g_X6_87 C0 (lt_b rfl) rfl rfl dX6_parish_30 ?_
      refine a_if_ne C0 50 dX6_parish_33 rfl (fun h33 => ?_) (fun h33 => ?_)
      · refine f50 O1 S1 R eW h1 (fun hR => ?_) hr2
        obtain ⟨e1, e2⟩ := hr1 hR
        obtain ⟨g11, gk, T, gr⟩ := h1.1 hR
        first
          | exact absurd (h1.ok.mpr hR) h33
          | (have hk0 : R.2.2.1 = 0 := by
               have q : nI R.2.2.1 = nI 0 := gk.1.symm.trans h40
               exact (nI_eq (by have := gk.le; omega) (by decide)).mp q
             obtain ⟨f2, rfl⟩ : ∃ f2, f = f2 + 1 := ⟨f - 1, by have := h1.2.2.2; omega⟩
             rw [← e1]
             exact if_pos hk0)
      · refine a_aload_n C0 0 dX6_parish_36 rfl rfl ?_
        refine g_X6_81 C0 (lt_b rfl) rfl rfl dX6_parish_37 ?_
        refine a_if_eq C0 50 dX6_parish_40 rfl (fun h40 => ?_) (fun h40 => ?_)
        · refine f50 O1 S1 R eW h1 (fun hR => ?_) hr2
          obtain ⟨e1, e2⟩ := hr1 hR
          obtain ⟨g11, gk, T, gr⟩ := h1.1 hR
          first
            | exact absurd (h1.ok.mpr hR) h33
            | (have hk0 : R.2.2.1 = 0 := by
                 have q : nI R.2.2.1 = nI 0 := gk.1.symm.trans h40
                 exact (nI_eq (by have := gk.le; omega) (by decide)).mp q
               obtain ⟨f2, rfl⟩ : ∃ f2, f = f2 + 1 := ⟨f - 1, by have := h1.2.2.2; omega⟩
               rw [← e1]
               exact if_pos hk0)
        · have hR : R.1 = true := h1.ok.mp h33
          obtain ⟨e1, e2⟩ := hr1 hR
          obtain ⟨g11, gk, T, gr⟩ := h1.1 hR
          have hk0 : ¬ R.2.2.1 = 0 := fun q => h40 (by
            show O1 7 = 0
            rw [gk.1, q]
            rfl)
          obtain ⟨f2, rfl⟩ : ∃ f2, f = f2 + 1 := ⟨f - 1, by have := h1.2.2.2; omega⟩
          refine a_aload_n C0 0 dX6_parish_43 rfl rfl ?_
          refine a_callV _ 0 C0 EM.refl (c_X6_itemHere l G (bX.eqW eW) g11 gk gr rfl) u_c_X6_itemHere u_m_X6_148 u_im_X6_itemHere u_se_X6_itemHere u_in_X6 hy_X6_itemHere rfl (lt_b rfl) rfl (hRk rfl) rfl rfl (le_b rfl) dX6_parish_44 (k_v fun u44 q44 => ?_)
          obtain ⟨O3, S3, rfl, eW3, h3⟩ := q44
          refine a_goto C0 29 dX6_parish_47 rfl ?_
          have eR : R = (true, R.2.1, R.2.2) := by
            rw [← hR]
          refine ih f2 _ _ (rdSent b n R.2.1 R.2.2) (by omega) (eW.trans eW3) h3 (fun c => ⟨?_, ?_⟩) (fun c => ?_)
          · rw [← e1]
            exact (if_pos c).symm.trans (if_neg hk0).symm
          · have := rs_ge (TG.rf gk) c
            omega
          · rw [← e1]
            rw [show rdI b n (f2 + 1) R.2.1 R.2.2 = _ from (if_neg hk0).trans (if_neg c)]
  refine a_aload_n C0 0 dX6_parish_0 rfl rfl ?_
  refine g_X6_7 C0 (lt_b rfl) rfl rfl dX6_parish_1 ?_
  refine a_aload_n C0 0 dX6_parish_4 rfl rfl ?_
  refine g_X6_19 C0 (lt_b rfl) rfl rfl dX6_parish_5 ?_
  refine a_callS _ 2 C0 em_MC14 (c_X6_copyRow l G (ad := fun k => ad (io2 1 1 4 k))) u_c_X6_copyRow u_m_X6_144 u_st_X6_copyRow u_in_X6 hy_X6_copyRow.2 (hRk rfl) rfl rfl (le_b rfl) dX6_parish_8 (k_vo ?_)
  refine AW.cg (M := mkM O S (stX X 4 (cp63 S (X 4)))) (fun q _ => by match q with | 0 => rfl | 1 => rfl | q + 2 => rfl) ?_
  refine a_aload_n C0 0 dX6_parish_11 rfl rfl ?_
  refine a_callV _ 0 C0 EM.refl (c_X6_begins l G rfl) u_c_X6_begins u_m_X6_49 u_im_X6_begins u_se_X6_begins u_in_X6 hy_X6_begins rfl (lt_b rfl) rfl (hRk rfl) rfl rfl (le_b rfl) dX6_parish_12 (k_v fun u12 q12 => ?_)
  obtain ⟨S2, rfl, gr0⟩ := q12
  have gr0 := gr0 Q0
  rw [rp.z] at gr0
  refine a_aload_n C0 0 dX6_parish_15 rfl rfl ?_
  refine a_iconst C0 0 dX6_parish_16 rfl ?_
  refine p_X6_64 C0 (lt_b rfl) rfl (lt_b rfl) rfl rfl dX6_parish_17 ?_
  refine a_aload_n C0 0 dX6_parish_20 rfl rfl ?_
  refine a_iconst C0 0 dX6_parish_21 rfl ?_
  refine p_X6_87 C0 (lt_b rfl) rfl (lt_b rfl) rfl rfl rfl dX6_parish_22 ?_
  rw [mkM_O, mkM_O]
  have eW0 : EqW O (upS (upS O 9 0) 11 0) := ((EqW.refl O).up (by decide) (by decide)).up (by decide) (by decide)
  refine a_aload_n C0 0 dX6_parish_25 rfl rfl ?_
  refine a_callV _ 0 C0 EM.refl (c_X6_nextToken l G (e0 := 0) (bX.eqW eW0) rfl (Nat.zero_le _) rfl) u_c_X6_nextToken u_m_X6_91 u_im_X6_nextToken u_se_X6_nextToken u_in_X6 hy_X6_nextToken rfl (lt_b rfl) rfl (hRk rfl) rfl rfl (le_b rfl) dX6_parish_26 (k_v fun u26 q26 => ?_)
  obtain ⟨O2, rfl, eT, hk⟩ := q26
  refine l29 (n + 2) (n + 1) O2 S2 (true, up2 (firstP Q0) 0 10 (P 0 10), tk b n 0) (by omega) (eW0.trans eT.w) (MR.right (eT 11 (by omega)) hk gr0) (fun _ => ⟨rfl, by omega⟩) (fun c => absurd rfl c)
