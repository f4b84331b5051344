
theorem lt0_ (n : Nat) : (lN n = 0) = (lN n = lN 0) := rfl
theorem gc_step {a b f : Nat} (ha : a < 2 ^ 63) (hb : b < 2 ^ 63) : gcS (f + 1) (lN a) (lN b) = if b = 0 then lN a else gcS f (lN b) (lN (a % b)) := by
  show (if lN b = 0 then lN a else gcS f (lN b) (lN a - lN a / lN b * lN b)) = _
  by_cases h : b = 0
  · rw [if_pos h, if_pos (by rw [h]; rfl)]
  · have h2 : ¬ lN b = 0 := fun q => h ((pk_lEQ hb (by decide)).mp (show lN b = lN 0 from q))
    rw [if_neg h, if_neg h2, pk_lRem ha (Nat.pos_of_ne_zero h) hb]
theorem gc_is : ∀ (k a b f : Nat), a < 2 ^ 63 → b < 2 ^ 63 → b < 2 ^ k → 2 * k + 1 ≤ f → gcS f (lN a) (lN b) = lN (Nat.gcd a b)
  | 0, a, b, f, ha, hb, hk, hf => by
    obtain ⟨f, rfl⟩ : ∃ g, f = g + 1 := ⟨f - 1, by omega⟩
    have e : b = 0 := by have : (2 : Nat) ^ 0 = 1 := rfl; omega
    subst e
    rw [gc_step ha hb, if_pos rfl, Nat.gcd_zero_right]
  | k + 1, a, b, f, ha, hb, hk, hf => by
    obtain ⟨f, rfl⟩ : ∃ g, f = g + 2 := ⟨f - 2, by omega⟩
    rw [gc_step ha hb]
    by_cases h : b = 0
    · subst h
      rw [if_pos rfl, Nat.gcd_zero_right]
    · have h1 : a % b < b := Nat.mod_lt _ (Nat.pos_of_ne_zero h)
      rw [if_neg h, gc_step hb (Nat.lt_trans h1 hb)]
      by_cases h2 : a % b = 0
      · rw [if_pos h2, Nat.gcd_comm, Nat.gcd_rec b a, h2, Nat.gcd_zero_left]
      · have h3 : b % (a % b) < a % b := Nat.mod_lt _ (Nat.pos_of_ne_zero h2)
        have h4 : b % (a % b) + (a % b) ≤ b := by
          have q := Nat.mod_add_div b (a % b)
          have q2 : 1 ≤ b / (a % b) := Nat.div_pos (Nat.le_of_lt h1) (Nat.pos_of_ne_zero h2)
          have q3 : a % b * 1 ≤ a % b * (b / (a % b)) := Nat.mul_le_mul_left _ q2
          omega
        have h5 : b < 2 ^ k * 2 := by rw [← Nat.pow_succ]; exact hk
        rw [if_neg h2, gc_is k (a % b) (b % (a % b)) f (Nat.lt_trans h1 hb) (by omega) (by omega) (by omega)]
        rw [Nat.gcd_comm a b, Nat.gcd_rec b a, Nat.gcd_comm (a % b) b, Nat.gcd_comm (a % b), ← Nat.gcd_rec (a % b) b, Nat.gcd_comm]
theorem gc_1000 {a b : Nat} (ha : a < 2 ^ 63) (hb : b < 2 ^ 63) : gcS 1000 (lN a) (lN b) = lN (Nat.gcd a b) := gc_is 63 a b 1000 ha hb hb (by decide)
theorem pt_is {a b : Nat} {k : Int32} (ha : a < 2 ^ 63) (hb : b < 2 ^ 63) (h0 : 0 < b) : ptS (lN a) (lN b) k = if k = 0 then lN a / lN (Nat.gcd b a) else lN b / lN (Nat.gcd b a) := by
  have hg : 0 < Nat.gcd b a := Nat.gcd_pos_of_pos_left _ h0
  have hl : Nat.gcd b a ≤ b := Nat.gcd_le_left _ h0
  unfold ptS
  rw [gc_1000 ha hb, Nat.gcd_comm a b, if_neg (show ¬ lN (Nat.gcd b a) = 0 from fun q => (Nat.ne_of_gt hg) ((pk_lEQ (by omega) (by decide)).mp (show lN (Nat.gcd b a) = lN 0 from q)))]
  by_cases h : k = 0
  · rw [if_pos h, if_pos h]
  · rw [if_neg h, if_neg h]
def prS : Nat → Int64
  | 0 => 1
  | i + 1 => if i = 0 then 1 else prS i * (nI (i + 1)).toInt64

set_option maxRecDepth 100000 in
set_option maxHeartbeats 4000000 in
theorem c_X6_product (l : Launch) (G : GE) {ad : Nat → Nat} {M : WM} {y : Int32} {n : Nat} (hy : y = nI n) (hn : n ≤ 8) : CT l G yX6_product cX6_product 4 (some .long) 0 [.int y] 0 ad sh0 M (PL (fun r u => r = prS n ∧ u = M)) := by
  refine CT.of (own := RX6) rfl rfl (le_b rfl) fun p e s m args below meth c A C0 hr => ?_
  refine AW.lo (ls2 := [(0, _)]) rfl ?_
  have lp : ∀ (z : Nat) (j : Nat) (a : Int64) (xi : Int32), 9 - j < z → (1 ≤ j ∧ (j ≤ n ∨ j = 1)) → (xi = nI (j + 1)) → (a = prS j) → AW p l e (rmk 0) s m args below meth c G A 0 ad sh0 4 0 0 (MQ below (CQ G 0 ad sh0 A (PL (fun r u => r = prS n ∧ u = M))) args s 0 0 A) 4 [(0, .int y), (1, .long a), (3, .int xi)] [] M := by
    intro z
    induction z with
    | zero =>
      intro j a xi hn
      exact absurd hn (Nat.not_lt_zero _)
    | succ z ih =>
      intro j a xi hn hi hxi hm
      refine a_iload_n C0 2 dX6_product_4 rfl rfl ?_
      refine a_iload_n C0 0 dX6_product_5 rfl rfl ?_
      refine a_icmp_gt C0 20 dX6_product_6 rfl (fun h6 => ?_) (fun h6 => ?_)
      · refine a_lload_n C0 1 dX6_product_20 rfl rfl ?_
        refine a_lret C0 hr dX6_product_21 ?_
        refine rl_ ?_
        rw [hxi, hy] at h6
        have h6 := (nI_ltI (by omega) (by omega)).mp h6
        rw [hm]
        match n, hi, h6 with
        | 0, hi, _ =>
          have e : j = 1 := by omega
          rw [e]
          rfl
        | n + 1, hi, h6 =>
          have e : j = n + 1 := by omega
          rw [e]
      · have hlt : j < n := Nat.not_le.mp fun q => h6 (by rw [hxi, hy]; exact nI_lt (by omega) (by omega))
        refine a_lload_n C0 1 dX6_product_9 rfl rfl ?_
        refine a_iload_n C0 2 dX6_product_10 rfl rfl ?_
        refine a_i2l C0 dX6_product_11 ?_
        refine a_lmul C0 dX6_product_12 ?_
        refine a_lstore_n (ls2 := [(1, _), (0, _), (3, _)]) C0 dX6_product_13 rfl (lt_b rfl) rfl ?_
        refine a_iinc (ls2 := [(3, _), (1, _), (0, _)]) C0 2 1 dX6_product_14 rfl rfl (lt_b rfl) rfl ?_
        refine a_goto C0 4 dX6_product_17 rfl ?_
        refine AW.sub (ls2 := [(0, _), (1, _), (3, _)]) [2, 1, 0] rfl ?_
        exact ih (j + 1) _ _ (by omega) ⟨by omega, Or.inl hlt⟩ (by rw [hxi, nI_1]) (by
          rw [hm, hxi]
          exact (if_neg (by omega)).symm)
  refine a_lconst C0 1 dX6_product_0 rfl ?_
  refine a_lstore_n (ls2 := [(1, _), (0, _)]) C0 dX6_product_1 rfl (lt_b rfl) rfl ?_
  refine a_iconst C0 2 dX6_product_2 rfl ?_
  refine a_istore_n (ls2 := [(3, _), (1, _), (0, _)]) C0 dX6_product_3 rfl (lt_b rfl) rfl ?_
  refine AW.sub (ls2 := [(0, _), (1, _), (3, _)]) [2, 1, 0] rfl ?_
  exact lp 10 1 _ _ (by omega) ⟨by omega, Or.inr rfl⟩ rfl rfl
set_option maxRecDepth 100000 in
set_option maxHeartbeats 4000000 in
theorem c_X6_partOf (l : Launch) (G : GE) {ad : Nat → Nat} {M : WM} {a b : Int64} {k : Int32} {Av Bv : Nat} (ea : a = lN Av) (eb : b = lN Bv) (hA : Av < 2 ^ 63) (hB : Bv < 2 ^ 63) (h0 : 0 < Bv) : CT l G yX6_partOf cX6_partOf 11 (some .long) 0 [.long a, .long b, .int k] 0 ad sh0 M (PL (fun r u => r = ptS a b k ∧ u = M)) := by
  refine CT.of (own := RX6) rfl rfl (le_b rfl) fun p e s m args below meth c A C0 hr => ?_
  refine AW.lo (ls2 := [(0, _), (2, _), (4, _)]) rfl ?_
  have lp : ∀ (n : Nat) (g q : Nat) (x y : Int64), q < n → (g < 2 ^ 63) → (q < 2 ^ 63) → (x = lN g) → (y = lN q) → (Nat.gcd g q = Nat.gcd Bv Av) → AW p l e (rmk 0) s m args below meth c G A 0 ad sh0 11 0 0 (MQ below (CQ G 0 ad sh0 A (PL (fun r u => r = ptS a b k ∧ u = M))) args s 0 0 A) 6 [(0, .long a), (2, .long b), (4, .int k), (5, .long x), (7, .long y)] [] M := by
    intro n
    induction n with
    | zero =>
      intro g q x y hn
      exact absurd hn (Nat.not_lt_zero _)
    | succ n ih =>
      intro g q x y hn hp hq hx hy hg
      refine a_lload C0 4 dX6_partOf_6 rfl ?_
      refine a_lconst C0 0 dX6_partOf_8 rfl ?_
      refine a_lcmp C0 dX6_partOf_9 ?_
      refine a_if_eq C0 31 dX6_partOf_10 rfl (fun h10 => ?_) (fun h10 => ?_)
      · have hq0 : q = 0 := by
          have z := (lg_cmp_eq y 0).mp h10
          rw [hy] at z
          exact (pk_lEQ hq (by decide)).mp z
        have eg : g = Nat.gcd Bv Av := by
          rw [← hg, hq0, Nat.gcd_zero_right]
        have hn : ¬ x = 0 := fun z => by
          rw [hx] at z
          have z := (pk_lEQ hp (by decide)).mp (show lN g = lN 0 from z)
          rw [eg] at z
          have := Nat.gcd_pos_of_pos_left Av h0
          omega
        refine a_iload C0 2 dX6_partOf_31 rfl ?_
        refine a_if_ne C0 43 dX6_partOf_33 rfl (fun h33 => ?_) (fun h33 => ?_)
        · refine a_lload_n C0 1 dX6_partOf_43 rfl rfl ?_
          refine a_lload C0 3 dX6_partOf_44 rfl ?_
          refine a_ldiv C0 dX6_partOf_46 hn ?_
          refine a_lret C0 hr dX6_partOf_47 ?_
          refine rl_ ?_
          rw [ea, eb, pt_is hA hB h0, ← ea, ← eb, ← eg, ← hx]
          first
            | rw [if_pos h33]
            | rw [if_neg h33]
        · refine a_lload_n C0 0 dX6_partOf_36 rfl rfl ?_
          refine a_lload C0 3 dX6_partOf_37 rfl ?_
          refine a_ldiv C0 dX6_partOf_39 hn ?_
          refine a_goto C0 47 dX6_partOf_40 rfl ?_
          refine a_lret C0 hr dX6_partOf_47 ?_
          refine rl_ ?_
          rw [ea, eb, pt_is hA hB h0, ← ea, ← eb, ← eg, ← hx]
          first
            | rw [if_pos h33]
            | rw [if_neg h33]
      · have hq0 : ¬ q = 0 := fun z => h10 ((lg_cmp_eq y 0).mpr (by rw [hy, z]; rfl))
        refine a_lload C0 3 dX6_partOf_13 rfl ?_
        refine a_lload C0 4 dX6_partOf_15 rfl ?_
        refine a_lrem C0 dX6_partOf_17 (fun z => hq0 ((pk_lEQ hq (by decide)).mp (by rw [← hy]; exact z))) ?_
        refine a_lstore (ls2 := [(9, _), (0, _), (2, _), (4, _), (5, _), (7, _)]) C0 dX6_partOf_18 (lt_b rfl) rfl ?_
        refine a_lload C0 5 dX6_partOf_20 rfl ?_
        refine a_lstore (ls2 := [(5, _), (9, _), (0, _), (2, _), (4, _), (7, _)]) C0 dX6_partOf_22 (lt_b rfl) rfl ?_
        refine a_lload C0 1 dX6_partOf_24 rfl ?_
        refine a_lstore (ls2 := [(7, _), (5, _), (9, _), (0, _), (2, _), (4, _)]) C0 dX6_partOf_26 (lt_b rfl) rfl ?_
        refine a_goto C0 6 dX6_partOf_28 rfl ?_
        refine AW.sub (ls2 := [(0, _), (2, _), (4, _), (5, _), (7, _)]) [3, 4, 5, 1, 0] rfl ?_
        exact ih q (g % q) _ _ (by have := Nat.mod_lt g (Nat.pos_of_ne_zero hq0); omega) hq (by have := Nat.mod_lt g (Nat.pos_of_ne_zero hq0); omega) hy (by rw [hx, hy, pk_lRem hp (Nat.pos_of_ne_zero hq0) hq]) (by
          rw [← hg, Nat.gcd_comm g q, Nat.gcd_rec q g, Nat.gcd_comm])
  refine a_lload_n C0 1 dX6_partOf_0 rfl rfl ?_
  refine a_lstore (ls2 := [(5, _), (0, _), (2, _), (4, _)]) C0 dX6_partOf_1 (lt_b rfl) rfl ?_
  refine a_lload_n C0 1 dX6_partOf_3 rfl rfl ?_
  refine a_lstore (ls2 := [(7, _), (5, _), (0, _), (2, _), (4, _)]) C0 dX6_partOf_4 (lt_b rfl) rfl ?_
  refine AW.sub (ls2 := [(0, _), (2, _), (4, _), (5, _), (7, _)]) [2, 3, 4, 1, 0] rfl ?_
  exact lp (2 ^ 63) Bv Av _ _ hA hB hA eb ea rfl

theorem wy_t : ∀ n, n < 9 → ∀ k, k < n + 1 → wyS (nI n) (nI k) k = prS n / prS k / prS (n - k) ∧ ¬ prS k = 0 ∧ ∃ c, c < 71 ∧ prS n / prS k / prS (n - k) = lN c := by
  have h : ∀ n, n < 9 → ∀ k, k < n + 1 → (decide (wyS (nI n) (nI k) k = prS n / prS k / prS (n - k)) && decide (¬ prS k = 0) && (List.range 71).any fun c => decide (prS n / prS k / prS (n - k) = lN c)) = true := by decide +kernel
  intro n hn k hk
  have := h n hn k hk
  rw [Bool.and_eq_true, Bool.and_eq_true] at this
  obtain ⟨⟨a, b⟩, c⟩ := this
  obtain ⟨c, hc, e⟩ := List.any_eq_true.mp c
  exact ⟨of_decide_eq_true a, of_decide_eq_true b, c, List.mem_range.mp hc, of_decide_eq_true e⟩
theorem pr_n0 : ∀ n, n < 9 → ¬ prS n = 0 := by
  intro n hn q
  exact (wy_t n hn n (by omega)).2.1 q
theorem pw_is {m : Nat} : ∀ i, pwS (lN m) i = lN (m ^ i)
  | 0 => rfl
  | i + 1 => by
    show pwS (lN m) i * lN m = _
    rw [pw_is i, lN_mul, Nat.pow_succ]
/-- the model's own product -/
def abS (A0 a b : Int64) (k : Nat) : Nat → Int64
  | 0 => A0
  | i + 1 => abS A0 a b k i * (if i < k then a else b)
theorem ab_1 {A0 a b : Int64} {k : Nat} : ∀ i, i ≤ k → abS A0 a b k i = A0 * pwS a i
  | 0, _ => (Int64.mul_one A0).symm
  | i + 1, h => by
    show abS A0 a b k i * (if i < k then a else b) = A0 * (pwS a i * a)
    rw [if_pos (by omega), ab_1 i (by omega), Int64.mul_assoc]
theorem ab_2 {A0 a b : Int64} {k : Nat} : ∀ j, abS A0 a b k (k + j) = A0 * pwS a k * pwS b j
  | 0 => by
    rw [Nat.add_zero, ab_1 k (Nat.le_refl k)]
    exact (Int64.mul_one _).symm
  | j + 1 => by
    show abS A0 a b k (k + j) * (if k + j < k then a else b) = A0 * pwS a k * (pwS b j * b)
    rw [if_neg (by omega), ab_2 j, Int64.mul_assoc]
theorem pw_le {m i : Nat} (h : m ≤ 100) (hi : i ≤ 8) : m ^ i ≤ 100 ^ i := Nat.pow_le_pow_left h i
theorem od_b {c m i j : Nat} (hc : c < 71) (hm : m < 100) (hij : i + j ≤ 8) : c * m ^ i * (100 - m) ^ j < 2 ^ 63 := by
  have h1 : m ^ i ≤ 100 ^ i := Nat.pow_le_pow_left (by omega) i
  have h2 : (100 - m) ^ j ≤ 100 ^ j := Nat.pow_le_pow_left (by omega) j
  have h3 : 100 ^ i * 100 ^ j ≤ 100 ^ 8 := by
    rw [← Nat.pow_add]
    exact Nat.pow_le_pow_right (by decide) hij
  have h4 : c * m ^ i * (100 - m) ^ j ≤ 71 * 100 ^ i * 100 ^ j := Nat.mul_le_mul (Nat.mul_le_mul (by omega) h1) h2
  have h5 : 71 * 100 ^ i * 100 ^ j = 71 * (100 ^ i * 100 ^ j) := Nat.mul_assoc _ _ _
  have h6 : 71 * (100 ^ i * 100 ^ j) ≤ 71 * 100 ^ 8 := Nat.mul_le_mul_left 71 h3
  have h7 : 71 * 100 ^ 8 < 2 ^ 63 := by decide
  omega
theorem hu_ {L : Int32} {m : Nat} (e : L = nI m) (h : m < 100) : (100 - L).toInt64 = lN (100 - m) := by
  have t : ∀ m, m < 100 → (100 - nI m).toInt64 = lN (100 - m) := by decide +kernel
  rw [e]
  exact t m h

set_option maxRecDepth 100000 in
set_option maxHeartbeats 4000000 in
theorem c_X6_odds (l : Launch) (G : GE) {ad : Nat → Nat} {M : WM} {O S : RW} {X : WM} {P : WM} {nT mm : Nat} (rp : RP P S nT mm) {y k x : Int32} (hM : M = mkM O S X)  : CT l G yX6_odds cX6_odds 9 (some .long) 1 [.ref (ad 0), .int y, .int k, .int x] 14 ad (shM G ad) M (PL (fun r u => r = oddS (P 1 3) y k x ∧ u = mkM O S X)) := by
  refine CT.of (own := RX6) rfl rfl (le_b rfl) fun p e s m args below meth c A C0 hr => ?_
  refine AW.lo (ls2 := [(0, _), (1, _), (2, _), (3, _)]) rfl ?_
  subst hM
  have lp : ∀ (n : Nat) (i : Nat) (a b : Int64) (xi : Int32), ix y - i < n → (i ≤ ix y) → (xi = nI i) → (0 ≤ y ∧ y ≤ 8) → (0 ≤ k ∧ k ≤ y) → (0 ≤ x ∧ x ≤ 1) → (a = abS (prS (ix y) / prS (ix k) / prS (ix y - ix k)) (P 1 3).toInt64 (100 - P 1 3).toInt64 (ix k) i) → (b = pwS 100 i) → AW p l e (rmk 1) s m args below meth c G A 14 ad (shM G ad) 9 0 0 (MQ below (CQ G 14 ad (shM G ad) A (PL (fun r u => r = oddS (P 1 3) y k x ∧ u = mkM O S X))) args s 0 0 A) 61 [(0, .ref (ad 0)), (1, .int y), (2, .int k), (3, .int x), (4, .long a), (6, .long b), (8, .int xi)] [] (mkM O S X) := by
    intro n
    induction n with
    | zero =>
      intro i a b xi hn
      exact absurd hn (Nat.not_lt_zero _)
    | succ n ih =>
      intro i a b xi hn hi hxi h9 h20 h30 ha hb
      have hc : ((0 ≤ y ∧ y ≤ 8) ∧ (0 ≤ k ∧ k ≤ y) ∧ (0 ≤ x ∧ x ≤ 1)) := ⟨h9, h20, h30⟩
      have hy9 := in_of (n := 8) (by decide) h9
      have ey : y = nI (ix y) := (IX.v hy9).eq (by decide)
      have hy8 := vp_lt hy9
      have hkv : vp_in k (ix y + 1) := in_of (by omega) (by rw [← ey]; exact h20)
      have ek : k = nI (ix k) := (IX.v hkv).eq (by omega)
      have hk8 := vp_lt hkv
      have e0 : y - k = nI (ix y - ix k) := by
        obtain ⟨j, hj⟩ : ∃ j, ix y = j + ix k := ⟨ix y - ix k, by omega⟩
        have e1 : y = nI (j + ix k) := by rw [← hj]; exact ey
        rw [hj, Nat.add_sub_cancel]
        refine Eq.trans (congrArg (fun q => q - k) e1) ?_
        rw [← nI_add, ← ek, Int32.add_sub_cancel]
      have e3 : mkM O S X 1 6 = P 1 3 := rp.law 3 (by decide)
      obtain ⟨m, hm, em⟩ := vp_in_of rp.lw (by decide)
      obtain ⟨w1, w2, cc, hcc, ec⟩ := wy_t (ix y) hy8 (ix k) hk8
      refine a_iload C0 6 dX6_odds_61 rfl ?_
      refine a_iload_n C0 1 dX6_odds_63 rfl rfl ?_
      refine a_icmp_ge C0 114 dX6_odds_64 rfl (fun h64 => ?_) (fun h64 => ?_)
      · have e : i = ix y := Nat.le_antisymm hi (i_ge hxi ey (by omega) (by omega) h64)
        have ex : P 1 3 = nI m := em
        have el : (P 1 3).toInt64 = lN m := by rw [ex]; exact nI_l (by omega)
        have eA : a = lN (cc * m ^ ix k * (100 - m) ^ (ix y - ix k)) := by
          rw [ha, e]
          conv => lhs; rw [show ix y = ix k + (ix y - ix k) by omega, ab_2]
          rw [show ix k + (ix y - ix k) = ix y by omega, ec, el, hu_ ex hm, pw_is, pw_is, lN_mul, lN_mul]
        have eB : b = lN (100 ^ ix y) := by
          rw [hb, e]
          exact pw_is _
        have hB : 100 ^ ix y < 2 ^ 63 := Nat.lt_of_le_of_lt (Nat.pow_le_pow_right (by decide) (show ix y ≤ 8 by omega)) (by decide)
        have hv : ptS a b x = oddS (P 1 3) y k x := by
          unfold oddS
          rw [if_pos hc, hb, e, ha, e]
          congr 1
          conv => lhs; rw [show ix y = ix k + (ix y - ix k) by omega, ab_2]
          rw [show ix k + (ix y - ix k) = ix y by omega, ← w1, ← ey, ← ek, e0, show ix (nI (ix y - ix k)) = ix y - ix k from nI_clamp (by omega)]
        refine a_lload C0 4 dX6_odds_114 rfl ?_
        refine a_lload C0 5 dX6_odds_116 rfl ?_
        refine a_iload_n C0 3 dX6_odds_118 rfl rfl ?_
        refine a_callS _ 3 C0 EM.z (c_X6_partOf l G eA eB (od_b hcc hm (by omega)) hB (Nat.pow_pos (by decide))) u_c_X6_partOf u_m_X6_272 u_st_X6_partOf u_in_X6 hy_X6_partOf.2 (hRk rfl) rfl rfl (le_b rfl) dX6_odds_119 (k_lo EM.z ?_)
        refine a_lret C0 hr dX6_odds_122 ?_
        exact rl_ hv
      · have hlt : i < ix y := i_lt hxi ey (by omega) (by omega) h64
        refine a_lload C0 4 dX6_odds_67 rfl ?_
        refine a_iload C0 6 dX6_odds_69 rfl ?_
        refine a_iload_n C0 2 dX6_odds_71 rfl rfl ?_
        refine a_icmp_ge C0 86 dX6_odds_72 rfl (fun h72 => ?_) (fun h72 => ?_)
        · refine a_bipush C0 100 dX6_odds_86 rfl ?_
          refine a_aload_n C0 0 dX6_odds_88 rfl rfl ?_
          refine g_X6_7 C0 (lt_b rfl) rfl rfl dX6_odds_89 ?_
          refine a_bipush C0 6 dX6_odds_92 rfl ?_
          refine a_iald C0 6 (lt_b rfl) rfl (vq rfl) rfl dX6_odds_94 ?_
          refine a_isub C0 dX6_odds_95 ?_
          refine a_i2l C0 dX6_odds_96 ?_
          refine a_lmul C0 dX6_odds_97 ?_
          refine a_lstore (ls2 := [(4, _), (0, _), (1, _), (2, _), (3, _), (6, _), (8, _)]) C0 dX6_odds_98 (lt_b rfl) rfl ?_
          refine a_lload C0 5 dX6_odds_100 rfl ?_
          refine a_ldc2 C0 dX6_odds_102 u_k_X6_270 ?_
          refine a_lmul C0 dX6_odds_105 ?_
          refine a_lstore (ls2 := [(6, _), (4, _), (0, _), (1, _), (2, _), (3, _), (8, _)]) C0 dX6_odds_106 (lt_b rfl) rfl ?_
          refine a_iinc (ls2 := [(8, _), (6, _), (4, _), (0, _), (1, _), (2, _), (3, _)]) C0 6 1 dX6_odds_108 rfl rfl (lt_b rfl) rfl ?_
          refine a_goto C0 61 dX6_odds_111 rfl ?_
          refine AW.sub (ls2 := [(0, _), (1, _), (2, _), (3, _), (4, _), (6, _), (8, _)]) [3, 4, 5, 6, 2, 1, 0] rfl ?_
          first
            | (have hik : i < ix k := i_lt hxi ek (by omega) (by omega) h72
               exact ih (i + 1) _ _ _ (by omega) hlt (by rw [hxi, nI_1]) h9 h20 h30 (by
                 rw [ha, e3]
                 show _ = abS _ _ _ _ i * (if i < ix k then _ else _)
                 rw [if_pos hik]) (by rw [hb]; rfl))
            | (have hik : ¬ i < ix k := Nat.not_lt.mpr (i_ge hxi ek (by omega) (by omega) h72)
               exact ih (i + 1) _ _ _ (by omega) hlt (by rw [hxi, nI_1]) h9 h20 h30 (by
                 rw [ha, e3]
                 show _ = abS _ _ _ _ i * (if i < ix k then _ else _)
                 rw [if_neg hik]) (by rw [hb]; rfl))
        · refine a_aload_n C0 0 dX6_odds_75 rfl rfl ?_
          refine g_X6_7 C0 (lt_b rfl) rfl rfl dX6_odds_76 ?_
          refine a_bipush C0 6 dX6_odds_79 rfl ?_
          refine a_iald C0 6 (lt_b rfl) rfl (vq rfl) rfl dX6_odds_81 ?_
          refine a_i2l C0 dX6_odds_82 ?_
          refine a_goto C0 97 dX6_odds_83 rfl ?_
          refine a_lmul C0 dX6_odds_97 ?_
          refine a_lstore (ls2 := [(4, _), (0, _), (1, _), (2, _), (3, _), (6, _), (8, _)]) C0 dX6_odds_98 (lt_b rfl) rfl ?_
          refine a_lload C0 5 dX6_odds_100 rfl ?_
          refine a_ldc2 C0 dX6_odds_102 u_k_X6_270 ?_
          refine a_lmul C0 dX6_odds_105 ?_
          refine a_lstore (ls2 := [(6, _), (4, _), (0, _), (1, _), (2, _), (3, _), (8, _)]) C0 dX6_odds_106 (lt_b rfl) rfl ?_
          refine a_iinc (ls2 := [(8, _), (6, _), (4, _), (0, _), (1, _), (2, _), (3, _)]) C0 6 1 dX6_odds_108 rfl rfl (lt_b rfl) rfl ?_
          refine a_goto C0 61 dX6_odds_111 rfl ?_
          refine AW.sub (ls2 := [(0, _), (1, _), (2, _), (3, _), (4, _), (6, _), (8, _)]) [3, 4, 5, 6, 2, 1, 0] rfl ?_
          first
            | (have hik : i < ix k := i_lt hxi ek (by omega) (by omega) h72
               exact ih (i + 1) _ _ _ (by omega) hlt (by rw [hxi, nI_1]) h9 h20 h30 (by
                 rw [ha, e3]
                 show _ = abS _ _ _ _ i * (if i < ix k then _ else _)
                 rw [if_pos hik]) (by rw [hb]; rfl))
            | (have hik : ¬ i < ix k := Nat.not_lt.mpr (i_ge hxi ek (by omega) (by omega) h72)
               exact ih (i + 1) _ _ _ (by omega) hlt (by rw [hxi, nI_1]) h9 h20 h30 (by
                 rw [ha, e3]
                 show _ = abS _ _ _ _ i * (if i < ix k then _ else _)
                 rw [if_neg hik]) (by rw [hb]; rfl))
  refine a_iload_n C0 1 dX6_odds_0 rfl rfl ?_
  refine a_i2l C0 dX6_odds_1 ?_
  refine a_lconst C0 0 dX6_odds_2 rfl ?_
  refine a_ldc2 C0 dX6_odds_3 u_k_X6_52 ?_
  refine a_callS _ 3 C0 EM.z (c_X6_isIn l G (w2 := 0) (w3 := 8) rfl rfl rfl) u_c_X6_isIn u_m_X6_54 u_st_X6_isIn u_in_X6 hy_X6_isIn.2 (hRk rfl) rfl rfl (le_b rfl) dX6_odds_6 (k_ro EM.z ?_)
  refine a_if_eqb C0 33 dX6_odds_9 rfl (fun h9 => ?_) (fun h9 => ?_)
  · refine a_ldc2 C0 dX6_odds_33 u_k_X6_264 ?_
    refine a_lret C0 hr dX6_odds_36 ?_
    have hc : ¬ ((0 ≤ y ∧ y ≤ 8) ∧ (0 ≤ k ∧ k ≤ y) ∧ (0 ≤ x ∧ x ≤ 1)) := fun q => by
      first
        | exact h9 q.1
        | exact h20 q.2.1
        | exact h30 q.2.2
    exact rl_ (if_neg hc).symm
  · refine a_iload_n C0 2 dX6_odds_12 rfl rfl ?_
    refine a_i2l C0 dX6_odds_13 ?_
    refine a_lconst C0 0 dX6_odds_14 rfl ?_
    refine a_iload_n C0 1 dX6_odds_15 rfl rfl ?_
    refine a_i2l C0 dX6_odds_16 ?_
    refine a_callS _ 3 C0 EM.z (c_X6_isIn l G (w2 := 0) rfl rfl rfl) u_c_X6_isIn u_m_X6_54 u_st_X6_isIn u_in_X6 hy_X6_isIn.2 (hRk rfl) rfl rfl (le_b rfl) dX6_odds_17 (k_ro EM.z ?_)
    refine a_if_eqb C0 33 dX6_odds_20 rfl (fun h20 => ?_) (fun h20 => ?_)
    · refine a_ldc2 C0 dX6_odds_33 u_k_X6_264 ?_
      refine a_lret C0 hr dX6_odds_36 ?_
      have hc : ¬ ((0 ≤ y ∧ y ≤ 8) ∧ (0 ≤ k ∧ k ≤ y) ∧ (0 ≤ x ∧ x ≤ 1)) := fun q => by
        first
          | exact h9 q.1
          | exact h20 q.2.1
          | exact h30 q.2.2
      exact rl_ (if_neg hc).symm
    · refine a_iload_n C0 3 dX6_odds_23 rfl rfl ?_
      refine a_i2l C0 dX6_odds_24 ?_
      refine a_lconst C0 0 dX6_odds_25 rfl ?_
      refine a_lconst C0 1 dX6_odds_26 rfl ?_
      refine a_callS _ 3 C0 EM.z (c_X6_isIn l G (w2 := 0) (w3 := 1) rfl rfl rfl) u_c_X6_isIn u_m_X6_54 u_st_X6_isIn u_in_X6 hy_X6_isIn.2 (hRk rfl) rfl rfl (le_b rfl) dX6_odds_27 (k_ro EM.z ?_)
      refine a_if_neb C0 37 dX6_odds_30 rfl (fun h30 => ?_) (fun h30 => ?_)
      · have hc : ((0 ≤ y ∧ y ≤ 8) ∧ (0 ≤ k ∧ k ≤ y) ∧ (0 ≤ x ∧ x ≤ 1)) := ⟨h9, h20, h30⟩
        have hy9 := in_of (n := 8) (by decide) h9
        have ey : y = nI (ix y) := (IX.v hy9).eq (by decide)
        have hy8 := vp_lt hy9
        have hkv : vp_in k (ix y + 1) := in_of (by omega) (by rw [← ey]; exact h20)
        have ek : k = nI (ix k) := (IX.v hkv).eq (by omega)
        have hk8 := vp_lt hkv
        have e0 : y - k = nI (ix y - ix k) := by
          obtain ⟨j, hj⟩ : ∃ j, ix y = j + ix k := ⟨ix y - ix k, by omega⟩
          have e1 : y = nI (j + ix k) := by rw [← hj]; exact ey
          rw [hj, Nat.add_sub_cancel]
          refine Eq.trans (congrArg (fun q => q - k) e1) ?_
          rw [← nI_add, ← ek, Int32.add_sub_cancel]
        have e3 : mkM O S X 1 6 = P 1 3 := rp.law 3 (by decide)
        obtain ⟨m, hm, em⟩ := vp_in_of rp.lw (by decide)
        obtain ⟨w1, w2, cc, hcc, ec⟩ := wy_t (ix y) hy8 (ix k) hk8
        refine a_iload_n C0 1 dX6_odds_37 rfl rfl ?_
        refine a_callS _ 1 C0 EM.z (c_X6_product l G ey (by omega)) u_c_X6_product u_m_X6_266 u_st_X6_product u_in_X6 hy_X6_product.2 (hRk rfl) rfl rfl (le_b rfl) dX6_odds_38 (k_lo EM.z ?_)
        refine a_iload_n C0 2 dX6_odds_41 rfl rfl ?_
        refine a_callS _ 1 C0 EM.z (c_X6_product l G ek (by omega)) u_c_X6_product u_m_X6_266 u_st_X6_product u_in_X6 hy_X6_product.2 (hRk rfl) rfl rfl (le_b rfl) dX6_odds_42 (k_lo EM.z ?_)
        refine a_ldiv C0 dX6_odds_45 (pr_n0 (ix k) (by omega)) ?_
        refine a_iload_n C0 1 dX6_odds_46 rfl rfl ?_
        refine a_iload_n C0 2 dX6_odds_47 rfl rfl ?_
        refine a_isub C0 dX6_odds_48 ?_
        refine a_callS _ 1 C0 EM.z (c_X6_product l G e0 (by omega)) u_c_X6_product u_m_X6_266 u_st_X6_product u_in_X6 hy_X6_product.2 (hRk rfl) rfl rfl (le_b rfl) dX6_odds_49 (k_lo EM.z ?_)
        refine a_ldiv C0 dX6_odds_52 (pr_n0 (ix y - ix k) (by omega)) ?_
        refine a_lstore (ls2 := [(4, _), (0, _), (1, _), (2, _), (3, _)]) C0 dX6_odds_53 (lt_b rfl) rfl ?_
        refine a_lconst C0 1 dX6_odds_55 rfl ?_
        refine a_lstore (ls2 := [(6, _), (4, _), (0, _), (1, _), (2, _), (3, _)]) C0 dX6_odds_56 (lt_b rfl) rfl ?_
        refine a_iconst C0 0 dX6_odds_58 rfl ?_
        refine a_istore (ls2 := [(8, _), (6, _), (4, _), (0, _), (1, _), (2, _), (3, _)]) C0 dX6_odds_59 (lt_b rfl) rfl ?_
        refine AW.sub (ls2 := [(0, _), (1, _), (2, _), (3, _), (4, _), (6, _), (8, _)]) [3, 4, 5, 6, 2, 1, 0] rfl ?_
        exact lp (ix y + 1) 0 _ _ _ (by omega) (Nat.zero_le _) rfl h9 h20 h30 rfl rfl
      · refine a_ldc2 C0 dX6_odds_33 u_k_X6_264 ?_
        refine a_lret C0 hr dX6_odds_36 ?_
        have hc : ¬ ((0 ≤ y ∧ y ≤ 8) ∧ (0 ≤ k ∧ k ≤ y) ∧ (0 ≤ x ∧ x ≤ 1)) := fun q => by
          first
            | exact h9 q.1
            | exact h20 q.2.1
            | exact h30 q.2.2
        exact rl_ (if_neg hc).symm
set_option maxRecDepth 100000 in
set_option maxHeartbeats 4000000 in
theorem c_X6_hope (l : Launch) (G : GE) {ad : Nat → Nat} {M : WM} {O S : RW} {X : WM} {P : WM} {nT mm : Nat} (rp : RP P S nT mm) {y x : Int32} (hM : M = mkM O S X)  : CT l G yX6_hope cX6_hope 3 (some .long) 1 [.ref (ad 0), .int y, .int x] 14 ad (shM G ad) M (PL (fun r u => r = hopS (P 1 3) y x ∧ u = mkM O S X)) := by
  refine CT.of (own := RX6) rfl rfl (le_b rfl) fun p e s m args below meth c A C0 hr => ?_
  refine AW.lo (ls2 := [(0, _), (1, _), (2, _)]) rfl ?_
  subst hM
  refine a_iload_n C0 1 dX6_hope_0 rfl rfl ?_
  refine a_i2l C0 dX6_hope_1 ?_
  refine a_lconst C0 0 dX6_hope_2 rfl ?_
  refine a_ldc2 C0 dX6_hope_3 u_k_X6_162 ?_
  refine a_callS _ 3 C0 EM.z (c_X6_isIn l G (w2 := 0) (w3 := 99) rfl rfl rfl) u_c_X6_isIn u_m_X6_54 u_st_X6_isIn u_in_X6 hy_X6_isIn.2 (hRk rfl) rfl rfl (le_b rfl) dX6_hope_6 (k_ro EM.z ?_)
  refine a_if_eqb C0 43 dX6_hope_9 rfl (fun h9 => ?_) (fun h9 => ?_)
  · refine a_ldc2 C0 dX6_hope_43 u_k_X6_264 ?_
    refine a_lret C0 hr dX6_hope_46 ?_
    first
      | exact rl_ (if_pos (show (0 ≤ y ∧ y ≤ 99) ∧ (0 ≤ x ∧ x ≤ 1) from ⟨h9, h19⟩)).symm
      | (have hc : ¬ ((0 ≤ y ∧ y ≤ 99) ∧ (0 ≤ x ∧ x ≤ 1)) := fun q => by
           first
             | exact h9 q.1
             | exact h19 q.2
         exact rl_ (if_neg hc).symm)
  · refine a_iload_n C0 2 dX6_hope_12 rfl rfl ?_
    refine a_i2l C0 dX6_hope_13 ?_
    refine a_lconst C0 0 dX6_hope_14 rfl ?_
    refine a_lconst C0 1 dX6_hope_15 rfl ?_
    refine a_callS _ 3 C0 EM.z (c_X6_isIn l G (w2 := 0) (w3 := 1) rfl rfl rfl) u_c_X6_isIn u_m_X6_54 u_st_X6_isIn u_in_X6 hy_X6_isIn.2 (hRk rfl) rfl rfl (le_b rfl) dX6_hope_16 (k_ro EM.z ?_)
    refine a_if_eqb C0 43 dX6_hope_19 rfl (fun h19 => ?_) (fun h19 => ?_)
    · refine a_ldc2 C0 dX6_hope_43 u_k_X6_264 ?_
      refine a_lret C0 hr dX6_hope_46 ?_
      first
        | exact rl_ (if_pos (show (0 ≤ y ∧ y ≤ 99) ∧ (0 ≤ x ∧ x ≤ 1) from ⟨h9, h19⟩)).symm
        | (have hc : ¬ ((0 ≤ y ∧ y ≤ 99) ∧ (0 ≤ x ∧ x ≤ 1)) := fun q => by
             first
               | exact h9 q.1
               | exact h19 q.2
           exact rl_ (if_neg hc).symm)
    · refine a_iload_n C0 1 dX6_hope_22 rfl rfl ?_
      refine a_i2l C0 dX6_hope_23 ?_
      refine a_aload_n C0 0 dX6_hope_24 rfl rfl ?_
      refine g_X6_7 C0 (lt_b rfl) rfl rfl dX6_hope_25 ?_
      refine a_bipush C0 6 dX6_hope_28 rfl ?_
      refine a_iald C0 6 (lt_b rfl) rfl (vq rfl) rfl dX6_hope_30 ?_
      have e3 : mkM O S X 1 6 = P 1 3 := rp.law 3 (by decide)
      rw [e3]
      obtain ⟨m, hm, em⟩ := vp_in_of rp.lw (by decide)
      have em : P 1 3 = nI m := em
      obtain ⟨n, hn, en⟩ := vp_in_of (in_of (n := 99) (by decide) h9) (by decide)
      have en : y = nI n := en
      have eA : y.toInt64 * (P 1 3).toInt64 = lN (n * m) := by
        rw [em, en, nI_l (by omega), nI_l (by omega), lN_mul]
      have hA : n * m < 2 ^ 63 := by
        have : n * m ≤ 99 * 99 := Nat.mul_le_mul (by omega) (by omega)
        omega
      refine a_i2l C0 dX6_hope_31 ?_
      refine a_lmul C0 dX6_hope_32 ?_
      refine a_ldc2 C0 dX6_hope_33 u_k_X6_270 ?_
      refine a_iload_n C0 2 dX6_hope_36 rfl rfl ?_
      refine a_callS _ 3 C0 EM.z (c_X6_partOf l G (Av := n * m) (Bv := 100) eA rfl hA (by decide) (by decide)) u_c_X6_partOf u_m_X6_272 u_st_X6_partOf u_in_X6 hy_X6_partOf.2 (hRk rfl) rfl rfl (le_b rfl) dX6_hope_37 (k_lo EM.z ?_)
      refine a_goto C0 46 dX6_hope_40 rfl ?_
      refine a_lret C0 hr dX6_hope_46 ?_
      first
        | exact rl_ (if_pos (show (0 ≤ y ∧ y ≤ 99) ∧ (0 ≤ x ∧ x ≤ 1) from ⟨h9, h19⟩)).symm
        | (have hc : ¬ ((0 ≤ y ∧ y ≤ 99) ∧ (0 ≤ x ∧ x ≤ 1)) := fun q => by
             first
               | exact h9 q.1
               | exact h19 q.2
           exact rl_ (if_neg hc).symm)
