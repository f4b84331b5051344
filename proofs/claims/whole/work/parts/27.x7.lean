
theorem rl_ {v : Int64} {M : WM} {e : Int64} (h : v = e) : PL (fun r u => r = e ∧ u = M) (some (.long v)) M := ⟨v, rfl, h, rfl⟩
/-- the ways to choose, a power, a common divisor, a part of a fraction -/
def wyS (n k : Int32) : Nat → Int64
  | 0 => 1
  | i + 1 => wyS n k i * (n - k + nI (i + 1)).toInt64 / (nI (i + 1)).toInt64
def pwS (b : Int64) : Nat → Int64
  | 0 => 1
  | i + 1 => pwS b i * b
def gcS : Nat → Int64 → Int64 → Int64
  | 0, a, _ => a
  | f + 1, a, b => if b = 0 then a else gcS f b (a - a / b * b)
def ptS (a b : Int64) (k : Int32) : Int64 := if gcS 1000 a b = 0 then 0 else (if k = 0 then a else b) / gcS 1000 a b

set_option maxRecDepth 100000 in
set_option maxHeartbeats 4000000 in
theorem c_X5_power (l : Launch) (G : GE) {ad : Nat → Nat} {M : WM} {b : Int64} {k : Int32} {kn : Nat} (hk : k = nI kn) (hk31 : kn < 2 ^ 30) : CT l G yX5_power cX5_power 6 (some .long) 0 [.long b, .int k] 0 ad sh0 M (PL (fun r u => r = pwS b kn ∧ u = M)) := by
  refine CT.of (own := RX5) rfl rfl (le_b rfl) fun p e s m args below meth c A C0 hr => ?_
  refine AW.lo (ls2 := [(0, _), (2, _)]) rfl ?_
  have lp : ∀ (n : Nat) (i : Nat) (a : Int64) (xi : Int32), kn - i < n → (i ≤ kn) → (xi = nI i) → (a = pwS b i) → AW p l e (rmk 0) s m args below meth c G A 0 ad sh0 6 0 0 (MQ below (CQ G 0 ad sh0 A (PL (fun r u => r = pwS b kn ∧ u = M))) args s 0 0 A) 5 [(0, .long b), (2, .int k), (3, .long a), (5, .int xi)] [] M := by
    intro n
    induction n with
    | zero =>
      intro i a xi hn
      exact absurd hn (Nat.not_lt_zero _)
    | succ n ih =>
      intro i a xi hn hi hxi hm
      refine a_iload C0 3 dX5_power_5 rfl ?_
      refine a_iload_n C0 1 dX5_power_7 rfl rfl ?_
      refine a_icmp_ge C0 21 dX5_power_8 rfl (fun h8 => ?_) (fun h8 => ?_)
      · refine a_lload_n C0 2 dX5_power_21 rfl rfl ?_
        refine a_lret C0 hr dX5_power_22 ?_
        have e : i = kn := Nat.le_antisymm hi (i_ge hxi hk (by omega) (by omega) h8)
        exact rl_ (by rw [hm, e])
      · have hlt : i < kn := i_lt hxi hk (by omega) (by omega) h8
        refine a_lload_n C0 2 dX5_power_11 rfl rfl ?_
        refine a_lload_n C0 0 dX5_power_12 rfl rfl ?_
        refine a_lmul C0 dX5_power_13 ?_
        refine a_lstore_n (ls2 := [(3, _), (0, _), (2, _), (5, _)]) C0 dX5_power_14 rfl (lt_b rfl) rfl ?_
        refine a_iinc (ls2 := [(5, _), (3, _), (0, _), (2, _)]) C0 3 1 dX5_power_15 rfl rfl (lt_b rfl) rfl ?_
        refine a_goto C0 5 dX5_power_18 rfl ?_
        refine AW.sub (ls2 := [(0, _), (2, _), (3, _), (5, _)]) [2, 3, 1, 0] rfl ?_
        exact ih (i + 1) _ _ (by omega) hlt (by rw [hxi, nI_1]) (by rw [hm]; rfl)
  refine a_lconst C0 1 dX5_power_0 rfl ?_
  refine a_lstore_n (ls2 := [(3, _), (0, _), (2, _)]) C0 dX5_power_1 rfl (lt_b rfl) rfl ?_
  refine a_iconst C0 0 dX5_power_2 rfl ?_
  refine a_istore (ls2 := [(5, _), (3, _), (0, _), (2, _)]) C0 dX5_power_3 (lt_b rfl) rfl ?_
  refine AW.sub (ls2 := [(0, _), (2, _), (3, _), (5, _)]) [2, 3, 1, 0] rfl ?_
  exact lp (kn + 1) 0 _ _ (by omega) (Nat.zero_le _) rfl rfl
theorem nz64 {k : Nat} (h0 : 0 < k) (h : k < 2 ^ 30) : ¬ (nI k).toInt64 = 0 := by
  intro q
  have q2 := congrArg Int64.toInt q
  rw [Int32.toInt_toInt64, nI_toInt (by omega)] at q2
  have q2 : (k : Int) = 0 := q2
  omega

set_option maxRecDepth 100000 in
set_option maxHeartbeats 4000000 in
theorem c_X5_waysToChoose (l : Launch) (G : GE) {ad : Nat → Nat} {M : WM} {y k : Int32} {kn : Nat} (hk : k = nI kn) (hk31 : kn < 2 ^ 20) : CT l G yX5_waysToChoose cX5_waysToChoose 5 (some .long) 0 [.int y, .int k] 0 ad sh0 M (PL (fun r u => r = wyS y k kn ∧ u = M)) := by
  refine CT.of (own := RX5) rfl rfl (le_b rfl) fun p e s m args below meth c A C0 hr => ?_
  refine AW.lo (ls2 := [(0, _), (1, _)]) rfl ?_
  have lp : ∀ (n : Nat) (i : Nat) (a : Int64) (xi : Int32), kn - i < n → (i ≤ kn) → (xi = nI (i + 1)) → (a = wyS y k i) → AW p l e (rmk 0) s m args below meth c G A 0 ad sh0 5 0 0 (MQ below (CQ G 0 ad sh0 A (PL (fun r u => r = wyS y k kn ∧ u = M))) args s 0 0 A) 5 [(0, .int y), (1, .int k), (2, .long a), (4, .int xi)] [] M := by
    intro n
    induction n with
    | zero =>
      intro i a xi hn
      exact absurd hn (Nat.not_lt_zero _)
    | succ n ih =>
      intro i a xi hn hi hxi hm
      refine a_iload C0 3 dX5_waysToChoose_5 rfl ?_
      refine a_iload_n C0 1 dX5_waysToChoose_7 rfl rfl ?_
      refine a_icmp_gt C0 31 dX5_waysToChoose_8 rfl (fun h8 => ?_) (fun h8 => ?_)
      · refine a_lload_n C0 2 dX5_waysToChoose_31 rfl rfl ?_
        refine a_lret C0 hr dX5_waysToChoose_32 ?_
        have e : i = kn := Nat.le_antisymm hi (Nat.not_lt.mp fun q => by
          rw [hxi, hk] at h8
          have := (nI_ltI (by omega) (by omega)).mp h8
          omega)
        exact rl_ (by rw [hm, e])
      · have hlt : i < kn := Nat.not_le.mp fun q => h8 (by rw [hxi, hk]; exact nI_lt (by omega) (by omega))
        refine a_lload_n C0 2 dX5_waysToChoose_11 rfl rfl ?_
        refine a_iload_n C0 0 dX5_waysToChoose_12 rfl rfl ?_
        refine a_iload_n C0 1 dX5_waysToChoose_13 rfl rfl ?_
        refine a_isub C0 dX5_waysToChoose_14 ?_
        refine a_iload C0 3 dX5_waysToChoose_15 rfl ?_
        refine a_iadd C0 dX5_waysToChoose_17 ?_
        refine a_i2l C0 dX5_waysToChoose_18 ?_
        refine a_lmul C0 dX5_waysToChoose_19 ?_
        refine a_iload C0 3 dX5_waysToChoose_20 rfl ?_
        refine a_i2l C0 dX5_waysToChoose_22 ?_
        refine a_ldiv C0 dX5_waysToChoose_23 (by rw [hxi]; exact nz64 (by omega) (by omega)) ?_
        refine a_lstore_n (ls2 := [(2, _), (0, _), (1, _), (4, _)]) C0 dX5_waysToChoose_24 rfl (lt_b rfl) rfl ?_
        refine a_iinc (ls2 := [(4, _), (2, _), (0, _), (1, _)]) C0 3 1 dX5_waysToChoose_25 rfl rfl (lt_b rfl) rfl ?_
        refine a_goto C0 5 dX5_waysToChoose_28 rfl ?_
        refine AW.sub (ls2 := [(0, _), (1, _), (2, _), (4, _)]) [2, 3, 1, 0] rfl ?_
        exact ih (i + 1) _ _ (by omega) hlt (by rw [hxi, nI_1]) (by rw [hm, hxi]; rfl)
  refine a_lconst C0 1 dX5_waysToChoose_0 rfl ?_
  refine a_lstore_n (ls2 := [(2, _), (0, _), (1, _)]) C0 dX5_waysToChoose_1 rfl (lt_b rfl) rfl ?_
  refine a_iconst C0 1 dX5_waysToChoose_2 rfl ?_
  refine a_istore (ls2 := [(4, _), (2, _), (0, _), (1, _)]) C0 dX5_waysToChoose_3 (lt_b rfl) rfl ?_
  refine AW.sub (ls2 := [(0, _), (1, _), (2, _), (4, _)]) [2, 3, 1, 0] rfl ?_
  exact lp (kn + 1) 0 _ _ (by omega) (Nat.zero_le _) rfl rfl
set_option maxRecDepth 100000 in
set_option maxHeartbeats 4000000 in
theorem c_X5_commonDivisor (l : Launch) (G : GE) {ad : Nat → Nat} {M : WM} {a b : Int64} : CT l G yX5_commonDivisor cX5_commonDivisor 11 (some .long) 0 [.long a, .long b] 0 ad sh0 M (PL (fun r u => r = gcS 1000 a b ∧ u = M)) := by
  refine CT.of (own := RX5) rfl rfl (le_b rfl) fun p e s m args below meth c A C0 hr => ?_
  refine AW.lo (ls2 := [(0, _), (2, _)]) rfl ?_
  have lp : ∀ (n : Nat) (i : Nat) (x y : Int64) (xi : Int32), 1000 - i < n → (i ≤ 1000) → (xi = nI i) → (gcS (1000 - i) x y = gcS 1000 a b) → AW p l e (rmk 0) s m args below meth c G A 0 ad sh0 11 0 0 (MQ below (CQ G 0 ad sh0 A (PL (fun r u => r = gcS 1000 a b ∧ u = M))) args s 0 0 A) 9 [(0, .long a), (2, .long b), (4, .long x), (6, .long y), (8, .int xi)] [] M := by
    intro n
    induction n with
    | zero =>
      intro i x y xi hn
      exact absurd hn (Nat.not_lt_zero _)
    | succ n ih =>
      intro i x y xi hn hi hxi hm
      refine a_iload C0 4 dX5_commonDivisor_9 rfl ?_
      refine a_sipush C0 1000 dX5_commonDivisor_11 rfl ?_
      refine a_icmp_ge C0 45 dX5_commonDivisor_14 rfl (fun h14 => ?_) (fun h14 => ?_)
      · refine a_lload C0 2 dX5_commonDivisor_45 rfl ?_
        refine a_lret C0 hr dX5_commonDivisor_47 ?_
        refine rl_ ?_
        rw [← hm]
        first
          | (have hy0 : y = 0 := (lg_cmp_eq y 0).mp h21
             rw [show 1000 - i = (1000 - (i + 1)) + 1 by omega]
             exact (if_pos hy0).symm)
          | (have e : i = 1000 := Nat.le_antisymm hi (i_ge (T := 1000) hxi rfl (by omega) (by omega) h14)
             rw [e]
             rfl)
      · have hlt : i < 1000 := i_lt (T := 1000) hxi rfl (by omega) (by omega) h14
        refine a_lload C0 3 dX5_commonDivisor_17 rfl ?_
        refine a_lconst C0 0 dX5_commonDivisor_19 rfl ?_
        refine a_lcmp C0 dX5_commonDivisor_20 ?_
        refine a_if_eq C0 45 dX5_commonDivisor_21 rfl (fun h21 => ?_) (fun h21 => ?_)
        · refine a_lload C0 2 dX5_commonDivisor_45 rfl ?_
          refine a_lret C0 hr dX5_commonDivisor_47 ?_
          refine rl_ ?_
          rw [← hm]
          first
            | (have hy0 : y = 0 := (lg_cmp_eq y 0).mp h21
               rw [show 1000 - i = (1000 - (i + 1)) + 1 by omega]
               exact (if_pos hy0).symm)
            | (have e : i = 1000 := Nat.le_antisymm hi (i_ge (T := 1000) hxi rfl (by omega) (by omega) h14)
               rw [e]
               rfl)
        · have hy0 : ¬ y = 0 := fun q => h21 ((lg_cmp_eq y 0).mpr q)
          refine a_lload C0 2 dX5_commonDivisor_24 rfl ?_
          refine a_lload C0 3 dX5_commonDivisor_26 rfl ?_
          refine a_lrem C0 dX5_commonDivisor_28 hy0 ?_
          refine a_lstore (ls2 := [(9, _), (0, _), (2, _), (4, _), (6, _), (8, _)]) C0 dX5_commonDivisor_29 (lt_b rfl) rfl ?_
          refine a_lload C0 4 dX5_commonDivisor_31 rfl ?_
          refine a_lstore (ls2 := [(4, _), (9, _), (0, _), (2, _), (6, _), (8, _)]) C0 dX5_commonDivisor_33 (lt_b rfl) rfl ?_
          refine a_lload C0 1 dX5_commonDivisor_35 rfl ?_
          refine a_lstore (ls2 := [(6, _), (4, _), (9, _), (0, _), (2, _), (8, _)]) C0 dX5_commonDivisor_37 (lt_b rfl) rfl ?_
          refine a_iinc (ls2 := [(8, _), (6, _), (4, _), (9, _), (0, _), (2, _)]) C0 5 1 dX5_commonDivisor_39 rfl rfl (lt_b rfl) rfl ?_
          refine a_goto C0 9 dX5_commonDivisor_42 rfl ?_
          refine AW.sub (ls2 := [(0, _), (2, _), (4, _), (6, _), (8, _)]) [4, 5, 2, 1, 0] rfl ?_
          exact ih (i + 1) _ _ _ (by omega) hlt (by rw [hxi, nI_1]) (by
            rw [← hm, show 1000 - i = (1000 - (i + 1)) + 1 by omega]
            exact (if_neg hy0).symm)
  refine a_lload_n C0 0 dX5_commonDivisor_0 rfl rfl ?_
  refine a_lstore (ls2 := [(4, _), (0, _), (2, _)]) C0 dX5_commonDivisor_1 (lt_b rfl) rfl ?_
  refine a_lload_n C0 2 dX5_commonDivisor_3 rfl rfl ?_
  refine a_lstore (ls2 := [(6, _), (4, _), (0, _), (2, _)]) C0 dX5_commonDivisor_4 (lt_b rfl) rfl ?_
  refine a_iconst C0 0 dX5_commonDivisor_6 rfl ?_
  refine a_istore (ls2 := [(8, _), (6, _), (4, _), (0, _), (2, _)]) C0 dX5_commonDivisor_7 (lt_b rfl) rfl ?_
  refine AW.sub (ls2 := [(0, _), (2, _), (4, _), (6, _), (8, _)]) [3, 4, 2, 1, 0] rfl ?_
  exact lp 1001 0 _ _ _ (by omega) (Nat.zero_le _) rfl rfl
set_option maxRecDepth 100000 in
set_option maxHeartbeats 4000000 in
theorem c_X5_partOf (l : Launch) (G : GE) {ad : Nat → Nat} {M : WM} {a b : Int64} {k : Int32} : CT l G yX5_partOf cX5_partOf 7 (some .long) 1 [.long a, .long b, .int k] 0 ad sh0 M (PL (fun r u => r = ptS a b k ∧ u = M)) := by
  refine CT.of (own := RX5) rfl rfl (le_b rfl) fun p e s m args below meth c A C0 hr => ?_
  refine AW.lo (ls2 := [(0, _), (2, _), (4, _)]) rfl ?_
  refine a_lload_n C0 0 dX5_partOf_0 rfl rfl ?_
  refine a_lload_n C0 1 dX5_partOf_1 rfl rfl ?_
  refine a_callS _ 2 C0 EM.z (c_X5_commonDivisor l G) u_c_X5_commonDivisor u_m_X5_236 u_st_X5_commonDivisor u_in_X5 hy_X5_commonDivisor.2 (hRk rfl) rfl rfl (le_b rfl) dX5_partOf_2 (k_lo EM.z ?_)
  refine a_lstore (ls2 := [(5, _), (0, _), (2, _), (4, _)]) C0 dX5_partOf_5 (lt_b rfl) rfl ?_
  refine a_lload C0 0 dX5_partOf_7 rfl ?_
  refine a_lconst C0 0 dX5_partOf_9 rfl ?_
  refine a_lcmp C0 dX5_partOf_10 ?_
  refine a_if_ne C0 18 dX5_partOf_11 rfl (fun h11 => ?_) (fun h11 => ?_)
  · have hg : ¬ gcS 1000 a b = 0 := fun q => h11 ((lg_cmp_eq _ 0).mpr q)
    refine a_iload C0 3 dX5_partOf_18 rfl ?_
    refine a_if_ne C0 27 dX5_partOf_20 rfl (fun h20 => ?_) (fun h20 => ?_)
    · refine a_lload_n C0 2 dX5_partOf_27 rfl rfl ?_
      refine a_lload C0 0 dX5_partOf_28 rfl ?_
      refine a_ldiv C0 dX5_partOf_30 hg ?_
      refine a_lret C0 hr dX5_partOf_31 ?_
      refine rl_ ?_
      unfold ptS
      first
        | rw [if_pos ((lg_cmp_eq _ 0).mp h11)]
        | rw [if_neg hg, if_pos h20]
        | rw [if_neg hg, if_neg h20]
    · refine a_lload_n C0 1 dX5_partOf_23 rfl rfl ?_
      refine a_goto C0 28 dX5_partOf_24 rfl ?_
      refine a_lload C0 0 dX5_partOf_28 rfl ?_
      refine a_ldiv C0 dX5_partOf_30 hg ?_
      refine a_lret C0 hr dX5_partOf_31 ?_
      refine rl_ ?_
      unfold ptS
      first
        | rw [if_pos ((lg_cmp_eq _ 0).mp h11)]
        | rw [if_neg hg, if_pos h20]
        | rw [if_neg hg, if_neg h20]
  · refine a_lconst C0 0 dX5_partOf_14 rfl ?_
    refine a_goto C0 31 dX5_partOf_15 rfl ?_
    refine a_lret C0 hr dX5_partOf_31 ?_
    refine rl_ ?_
    unfold ptS
    first
      | rw [if_pos ((lg_cmp_eq _ 0).mp h11)]
      | rw [if_neg hg, if_pos h20]
      | rw [if_neg hg, if_neg h20]
def oddS (L : Int32) (y k x : Int32) : Int64 := if ((0 ≤ y ∧ y ≤ 8) ∧ (0 ≤ k ∧ k ≤ y) ∧ (0 ≤ x ∧ x ≤ 1)) then ptS (wyS y k (ix k) * pwS L.toInt64 (ix k) * pwS (100 - L).toInt64 (ix (y - k))) (pwS 100 (ix y)) x else -1
def hopS (L : Int32) (y x : Int32) : Int64 := if (0 ≤ y ∧ y ≤ 99) ∧ (0 ≤ x ∧ x ≤ 1) then ptS (y.toInt64 * L.toInt64) 100 x else -1

set_option maxRecDepth 100000 in
set_option maxHeartbeats 4000000 in
theorem c_X5_odds (l : Launch) (G : GE) {ad : Nat → Nat} {M : WM} {O : Nat → Int32} {N K T B R S H Z : WM} {y k x : Int32} (hM : M = mkX O N K T B R S H Z)  : CT l G yX5_odds cX5_odds 7 (some .long) 2 [.ref (ad 0), .int y, .int k, .int x] 54 ad (shX G ad) M (PL (fun r u => r = oddS (N 1 3) y k x ∧ u = M)) := by
  refine CT.of (own := RX5) rfl rfl (le_b rfl) fun p e s m args below meth c A C0 hr => ?_
  refine AW.lo (ls2 := [(0, _), (1, _), (2, _), (3, _)]) rfl ?_
  subst hM
  refine a_iload_n C0 1 dX5_odds_0 rfl rfl ?_
  refine a_iconst C0 0 dX5_odds_1 rfl ?_
  refine a_bipush C0 8 dX5_odds_2 rfl ?_
  refine a_callS _ 3 C0 EM.z (c_X5_isWithin l G) u_c_X5_isWithin u_m_X5_55 u_st_X5_isWithin u_in_X5 hy_X5_isWithin.2 (hRk rfl) rfl rfl (le_b rfl) dX5_odds_4 (k_ro EM.z ?_)
  refine a_if_eqb C0 28 dX5_odds_7 rfl (fun h7 => ?_) (fun h7 => ?_)
  · refine a_ldc2 C0 dX5_odds_28 u_k_X5_220 ?_
    refine a_lret C0 hr dX5_odds_31 ?_
    have hc : ¬ ((0 ≤ y ∧ y ≤ 8) ∧ (0 ≤ k ∧ k ≤ y) ∧ (0 ≤ x ∧ x ≤ 1)) := fun q => by
      first
        | exact h7 q.1
        | exact h16 q.2.1
        | exact h25 q.2.2
    exact rl_ (if_neg hc).symm
  · refine a_iload_n C0 2 dX5_odds_10 rfl rfl ?_
    refine a_iconst C0 0 dX5_odds_11 rfl ?_
    refine a_iload_n C0 1 dX5_odds_12 rfl rfl ?_
    refine a_callS _ 3 C0 EM.z (c_X5_isWithin l G) u_c_X5_isWithin u_m_X5_55 u_st_X5_isWithin u_in_X5 hy_X5_isWithin.2 (hRk rfl) rfl rfl (le_b rfl) dX5_odds_13 (k_ro EM.z ?_)
    refine a_if_eqb C0 28 dX5_odds_16 rfl (fun h16 => ?_) (fun h16 => ?_)
    · refine a_ldc2 C0 dX5_odds_28 u_k_X5_220 ?_
      refine a_lret C0 hr dX5_odds_31 ?_
      have hc : ¬ ((0 ≤ y ∧ y ≤ 8) ∧ (0 ≤ k ∧ k ≤ y) ∧ (0 ≤ x ∧ x ≤ 1)) := fun q => by
        first
          | exact h7 q.1
          | exact h16 q.2.1
          | exact h25 q.2.2
      exact rl_ (if_neg hc).symm
    · refine a_iload_n C0 3 dX5_odds_19 rfl rfl ?_
      refine a_iconst C0 0 dX5_odds_20 rfl ?_
      refine a_iconst C0 1 dX5_odds_21 rfl ?_
      refine a_callS _ 3 C0 EM.z (c_X5_isWithin l G) u_c_X5_isWithin u_m_X5_55 u_st_X5_isWithin u_in_X5 hy_X5_isWithin.2 (hRk rfl) rfl rfl (le_b rfl) dX5_odds_22 (k_ro EM.z ?_)
      refine a_if_neb C0 32 dX5_odds_25 rfl (fun h25 => ?_) (fun h25 => ?_)
      · have hc : ((0 ≤ y ∧ y ≤ 8) ∧ (0 ≤ k ∧ k ≤ y) ∧ (0 ≤ x ∧ x ≤ 1)) := ⟨h7, h16, h25⟩
        have hy9 := in_of (n := 8) (by decide) h7
        have ey : y = nI (ix y) := (IX.v hy9).eq (by decide)
        have hy8 := vp_lt hy9
        have hkv : vp_in k (ix y + 1) := in_of (by omega) (by rw [← ey]; exact h16)
        have ek : k = nI (ix k) := (IX.v hkv).eq (by omega)
        have hk8 := vp_lt hkv
        have e0 : y - k = nI (ix y - ix k) := by
          obtain ⟨j, hj⟩ : ∃ j, ix y = j + ix k := ⟨ix y - ix k, by omega⟩
          have e1 : y = nI (j + ix k) := by rw [← hj]; exact ey
          rw [hj, Nat.add_sub_cancel]
          refine Eq.trans (congrArg (fun q => q - k) e1) ?_
          rw [← nI_add, ← ek, Int32.add_sub_cancel]
        have ed : y - k = nI (ix (y - k)) := by
          rw [e0]
          exact (congrArg nI (nI_clamp (by omega))).symm
        have hd : ix (y - k) ≤ 8 := by
          rw [e0, show ix (nI (ix y - ix k)) = ix y - ix k from nI_clamp (by omega)]
          omega
        refine a_aload_n C0 0 dX5_odds_32 rfl rfl ?_
        refine g_X5_10 C0 (lt_b rfl) rfl rfl dX5_odds_33 ?_
        refine g_X5_91 C0 (lt_b rfl) rfl rfl dX5_odds_36 ?_
        refine a_iconst C0 3 dX5_odds_39 rfl ?_
        refine a_iald C0 3 (lt_b rfl) rfl (vq rfl) rfl dX5_odds_40 ?_
        refine a_istore (ls2 := [(4, _), (0, _), (1, _), (2, _), (3, _)]) C0 dX5_odds_41 (lt_b rfl) rfl ?_
        refine a_iload_n C0 2 dX5_odds_43 rfl rfl ?_
        refine a_iload_n C0 3 dX5_odds_44 rfl rfl ?_
        refine a_callS _ 2 C0 EM.z (c_X5_waysToChoose l G ek (by omega)) u_c_X5_waysToChoose u_m_X5_222 u_st_X5_waysToChoose u_in_X5 hy_X5_waysToChoose.2 (hRk rfl) rfl rfl (le_b rfl) dX5_odds_45 (k_lo EM.z ?_)
        refine a_iload C0 0 dX5_odds_48 rfl ?_
        refine a_i2l C0 dX5_odds_50 ?_
        refine a_iload_n C0 3 dX5_odds_51 rfl rfl ?_
        refine a_callS _ 2 C0 EM.z (c_X5_power l G ek (by omega)) u_c_X5_power u_m_X5_226 u_st_X5_power u_in_X5 hy_X5_power.2 (hRk rfl) rfl rfl (le_b rfl) dX5_odds_52 (k_lo EM.z ?_)
        refine a_lmul C0 dX5_odds_55 ?_
        refine a_bipush C0 100 dX5_odds_56 rfl ?_
        refine a_iload C0 0 dX5_odds_58 rfl ?_
        refine a_isub C0 dX5_odds_60 ?_
        refine a_i2l C0 dX5_odds_61 ?_
        refine a_iload_n C0 2 dX5_odds_62 rfl rfl ?_
        refine a_iload_n C0 3 dX5_odds_63 rfl rfl ?_
        refine a_isub C0 dX5_odds_64 ?_
        refine a_callS _ 2 C0 EM.z (c_X5_power l G ed (by omega)) u_c_X5_power u_m_X5_226 u_st_X5_power u_in_X5 hy_X5_power.2 (hRk rfl) rfl rfl (le_b rfl) dX5_odds_65 (k_lo EM.z ?_)
        refine a_lmul C0 dX5_odds_68 ?_
        refine a_lstore (ls2 := [(5, _), (4, _), (0, _), (1, _), (2, _), (3, _)]) C0 dX5_odds_69 (lt_b rfl) rfl ?_
        refine a_lload C0 0 dX5_odds_71 rfl ?_
        refine a_ldc2 C0 dX5_odds_73 u_k_X5_230 ?_
        refine a_iload_n C0 3 dX5_odds_76 rfl rfl ?_
        refine a_callS _ 2 C0 EM.z (c_X5_power l G ey (by omega)) u_c_X5_power u_m_X5_226 u_st_X5_power u_in_X5 hy_X5_power.2 (hRk rfl) rfl rfl (le_b rfl) dX5_odds_77 (k_lo EM.z ?_)
        refine a_iload_n C0 5 dX5_odds_80 rfl rfl ?_
        refine a_callS _ 3 C0 EM.z (c_X5_partOf l G) u_c_X5_partOf u_m_X5_232 u_st_X5_partOf u_in_X5 hy_X5_partOf.2 (hRk rfl) rfl rfl (le_b rfl) dX5_odds_81 (k_lo EM.z ?_)
        refine a_lret C0 hr dX5_odds_84 ?_
        exact rl_ (by unfold oddS; rw [if_pos hc]; rfl)
      · refine a_ldc2 C0 dX5_odds_28 u_k_X5_220 ?_
        refine a_lret C0 hr dX5_odds_31 ?_
        have hc : ¬ ((0 ≤ y ∧ y ≤ 8) ∧ (0 ≤ k ∧ k ≤ y) ∧ (0 ≤ x ∧ x ≤ 1)) := fun q => by
          first
            | exact h7 q.1
            | exact h16 q.2.1
            | exact h25 q.2.2
        exact rl_ (if_neg hc).symm
set_option maxRecDepth 100000 in
set_option maxHeartbeats 4000000 in
theorem c_X5_hope (l : Launch) (G : GE) {ad : Nat → Nat} {M : WM} {O : Nat → Int32} {N K T B R S H Z : WM} {y x : Int32} (hM : M = mkX O N K T B R S H Z)  : CT l G yX5_hope cX5_hope 3 (some .long) 2 [.ref (ad 0), .int y, .int x] 54 ad (shX G ad) M (PL (fun r u => r = hopS (N 1 3) y x ∧ u = M)) := by
  refine CT.of (own := RX5) rfl rfl (le_b rfl) fun p e s m args below meth c A C0 hr => ?_
  refine AW.lo (ls2 := [(0, _), (1, _), (2, _)]) rfl ?_
  subst hM
  refine a_iload_n C0 1 dX5_hope_0 rfl rfl ?_
  refine a_iconst C0 0 dX5_hope_1 rfl ?_
  refine a_bipush C0 99 dX5_hope_2 rfl ?_
  refine a_callS _ 3 C0 EM.z (c_X5_isWithin l G) u_c_X5_isWithin u_m_X5_55 u_st_X5_isWithin u_in_X5 hy_X5_isWithin.2 (hRk rfl) rfl rfl (le_b rfl) dX5_hope_4 (k_ro EM.z ?_)
  refine a_if_eqb C0 19 dX5_hope_7 rfl (fun h7 => ?_) (fun h7 => ?_)
  · refine a_ldc2 C0 dX5_hope_19 u_k_X5_220 ?_
    refine a_lret C0 hr dX5_hope_22 ?_
    have hc : ¬ ((0 ≤ y ∧ y ≤ 99) ∧ (0 ≤ x ∧ x ≤ 1)) := fun q => by
      first
        | exact h7 q.1
        | exact h16 q.2
    exact rl_ (if_neg hc).symm
  · refine a_iload_n C0 2 dX5_hope_10 rfl rfl ?_
    refine a_iconst C0 0 dX5_hope_11 rfl ?_
    refine a_iconst C0 1 dX5_hope_12 rfl ?_
    refine a_callS _ 3 C0 EM.z (c_X5_isWithin l G) u_c_X5_isWithin u_m_X5_55 u_st_X5_isWithin u_in_X5 hy_X5_isWithin.2 (hRk rfl) rfl rfl (le_b rfl) dX5_hope_13 (k_ro EM.z ?_)
    refine a_if_neb C0 23 dX5_hope_16 rfl (fun h16 => ?_) (fun h16 => ?_)
    · refine a_iload_n C0 1 dX5_hope_23 rfl rfl ?_
      refine a_i2l C0 dX5_hope_24 ?_
      refine a_aload_n C0 0 dX5_hope_25 rfl rfl ?_
      refine g_X5_10 C0 (lt_b rfl) rfl rfl dX5_hope_26 ?_
      refine g_X5_91 C0 (lt_b rfl) rfl rfl dX5_hope_29 ?_
      refine a_iconst C0 3 dX5_hope_32 rfl ?_
      refine a_iald C0 3 (lt_b rfl) rfl (vq rfl) rfl dX5_hope_33 ?_
      refine a_i2l C0 dX5_hope_34 ?_
      refine a_lmul C0 dX5_hope_35 ?_
      refine a_ldc2 C0 dX5_hope_36 u_k_X5_230 ?_
      refine a_iload_n C0 2 dX5_hope_39 rfl rfl ?_
      refine a_callS _ 3 C0 EM.z (c_X5_partOf l G) u_c_X5_partOf u_m_X5_232 u_st_X5_partOf u_in_X5 hy_X5_partOf.2 (hRk rfl) rfl rfl (le_b rfl) dX5_hope_40 (k_lo EM.z ?_)
      refine a_lret C0 hr dX5_hope_43 ?_
      exact rl_ (by unfold hopS; rw [if_pos ⟨h7, h16⟩]; rfl)
    · refine a_ldc2 C0 dX5_hope_19 u_k_X5_220 ?_
      refine a_lret C0 hr dX5_hope_22 ?_
      have hc : ¬ ((0 ≤ y ∧ y ≤ 99) ∧ (0 ≤ x ∧ x ≤ 1)) := fun q => by
        first
          | exact h7 q.1
          | exact h16 q.2
      exact rl_ (if_neg hc).symm
