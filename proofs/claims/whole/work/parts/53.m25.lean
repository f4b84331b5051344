
/-! the Model's tape: bytes as 0 to 255 -/
def byM (Y : RW) (n i : Nat) : Int32 := if i < n then Y i else -1
def BR (b Y : RW) (n : Nat) : Prop := ∀ i, i < n → (0 ≤ b i ∧ b i ≤ 127 ∧ Y i = b i) ∨ (b i < 0 ∧ 128 ≤ Y i)
theorem BR.rng {b Y : RW} {n i : Nat} (h : BR b Y n) {lo hi : Int32} (h0 : 0 ≤ lo) (h1 : hi ≤ 127) : (lo ≤ byM Y n i ∧ byM Y n i ≤ hi) ↔ i < n ∧ lo ≤ b i ∧ b i ≤ hi := by
  unfold byM
  by_cases c : i < n
  · rw [if_pos c]
    rcases h i c with ⟨a1, a2, a3⟩ | ⟨a1, a2⟩
    · rw [a3]
      exact ⟨fun q => ⟨c, q⟩, fun q => q.2⟩
    · simp only [Int32.le_iff_toInt_le, Int32.lt_iff_toInt_lt] at *
      have e0 : (0 : Int32).toInt = 0 := rfl
      have e1 : (127 : Int32).toInt = 127 := rfl
      have e2 : (128 : Int32).toInt = 128 := rfl
      omega
  · rw [if_neg c]
    refine ⟨fun q => ?_, fun q => absurd q.1 c⟩
    have q2 := Int32.le_trans h0 q.1
    exact absurd q2 (by decide)
theorem BR.eq {b Y : RW} {n i : Nat} (h : BR b Y n) {c : Int32} (h0 : 0 ≤ c) (h1 : c ≤ 127) : byM Y n i = c ↔ i < n ∧ b i = c := by
  have q := h.rng (i := i) h0 h1
  constructor
  · intro e
    rw [e] at q
    have z := q.mp ⟨Int32.le_refl c, Int32.le_refl c⟩
    exact ⟨z.1, Int32.le_antisymm z.2.2 z.2.1⟩
  · intro e
    rw [e.2] at q
    have z := q.mpr ⟨e.1, Int32.le_refl c, Int32.le_refl c⟩
    exact Int32.le_antisymm z.2 z.1
theorem BR.neg {b Y : RW} {n i : Nat} (h : BR b Y n) : byM Y n i < 0 ↔ n ≤ i := by
  unfold byM
  by_cases c : i < n
  · rw [if_pos c]
    refine ⟨fun q => ?_, fun q => absurd c (Nat.not_lt.mpr q)⟩
    rcases h i c with ⟨a1, a2, a3⟩ | ⟨a1, a2⟩
    · rw [a3] at q
      exact absurd a1 (Int32.not_le.mpr q)
    · exact absurd (Int32.le_trans (by decide) a2) (Int32.not_le.mpr q)
  · rw [if_neg c]
    exact ⟨fun _ => Nat.not_lt.mp c, fun _ => by decide⟩

set_option maxRecDepth 100000 in
set_option maxHeartbeats 4000000 in
theorem c_X6_byteAt (l : Launch) (G : GE) {ad : Nat → Nat} {M : WM} {O S : RW} {X : WM} {v : Int32} {n i : Nat} (h6 : O 6 = nI n) (hn : n ≤ 200) (hv : v = nI i) (hi : i ≤ 400) (hM : M = mkM O S X)  : CT l G yX6_byteAt cX6_byteAt 2 (some .int) 0 [.ref (ad 0), .int v] 14 ad (shM G ad) M (PI (fun r u => r = byM (X 5) n i ∧ u = mkM O S X)) := by
  refine CT.of (own := RX6) rfl rfl (le_b rfl) fun p e s m args below meth c A C0 hr => ?_
  refine AW.lo (ls2 := [(0, _), (1, _)]) rfl ?_
  subst hM
  refine a_iload_n C0 1 dX6_byteAt_0 rfl rfl ?_
  refine a_aload_n C0 0 dX6_byteAt_1 rfl rfl ?_
  refine g_X6_58 C0 (lt_b rfl) rfl rfl dX6_byteAt_2 ?_
  refine a_icmp_ge C0 17 dX6_byteAt_5 rfl (fun h5 => ?_) (fun h5 => ?_)
  · refine a_iconst C0 (-1) dX6_byteAt_17 rfl ?_
    refine a_iret C0 hr dX6_byteAt_18 ?_
    refine rt_ ?_
    unfold byM
    first
      | (rw [if_pos hlt]
         rfl)
      | exact (if_neg (Nat.not_lt.mpr (i_ge hv h6 (by omega) (by omega) h5))).symm
  · have hlt : i < n := i_lt hv h6 (by omega) (by omega) h5
    have hx : IX v i 200 := IX.eqn hv (by omega) (by decide)
    refine a_aload_n C0 0 dX6_byteAt_8 rfl rfl ?_
    refine g_X6_22 C0 (lt_b rfl) rfl rfl dX6_byteAt_9 ?_
    refine a_iload_n C0 1 dX6_byteAt_12 rfl rfl ?_
    refine a_iald C0 _ (lt_b rfl) rfl hx.1 hx.2 dX6_byteAt_13 ?_
    refine a_goto C0 18 dX6_byteAt_14 rfl ?_
    refine a_iret C0 hr dX6_byteAt_18 ?_
    refine rt_ ?_
    unfold byM
    first
      | (rw [if_pos hlt]
         rfl)
      | exact (if_neg (Nat.not_lt.mpr (i_ge hv h6 (by omega) (by omega) h5))).symm

/-- the model's numbers, but those of its reading -/
def EqT (O O1 : RW) : Prop := ∀ j, j < 7 ∨ 10 < j → O1 j = O j
theorem EqT.refl (O : RW) : EqT O O := fun _ _ => rfl
theorem EqT.up {O O1 : RW} {i : Nat} {v : Int32} (h : EqT O O1) (h7 : 7 ≤ i) (h10 : i ≤ 10) : EqT O (upS O1 i v) := fun j hj => (up_ne (by omega)).trans (h j hj)
theorem EqT.trans {O O1 O2 : RW} (h : EqT O O1) (k : EqT O1 O2) : EqT O O2 := fun j hj => (k j hj).trans (h j hj)
theorem tok_k {b : RW} {n s : Nat} : tokK b n s ≤ 3 := by
  unfold tokK
  repeat' split
  all_goals omega
/-- where a token ends, but for what is none -/
def tokF (b : RW) (n s : Nat) : Nat := if tokK b n s = 1 then spB b n 97 122 (n - s) s else if tokK b n s = 2 then spB b n 48 57 (n - s) s else s
theorem tok_e {b : RW} {n s : Nat} : tokE b n s = if 2 < tokK b n s then tokF b n s + 1 else tokF b n s := by
  unfold tokE tokF
  by_cases c1 : n ≤ s
  · rw [if_pos c1, show tokK b n s = 0 from if_pos c1]
    rfl
  · rw [if_neg c1]
    by_cases c2 : 97 ≤ b s ∧ b s ≤ 122
    · rw [if_pos c2, show tokK b n s = 1 from (if_neg c1).trans (if_pos c2)]
      rfl
    · rw [if_neg c2]
      by_cases c3 : 48 ≤ b s ∧ b s ≤ 57
      · rw [if_pos c3, show tokK b n s = 2 from (if_neg c1).trans ((if_neg c2).trans (if_pos c3))]
        rfl
      · rw [if_neg c3, show tokK b n s = 3 from (if_neg c1).trans ((if_neg c2).trans (if_neg c3))]
        rfl
theorem nmB_s (b : RW) : ∀ f s a, nmB b (f + 1) s a = nmB b f s a * 10 + (b (s + f) - 48)
  | 0, _, _ => rfl
  | f + 1, s, a => by
    show nmB b (f + 1) (s + 1) (a * 10 + (b s - 48)) = nmB b f (s + 1) (a * 10 + (b s - 48)) * 10 + (b (s + (f + 1)) - 48)
    rw [nmB_s b f, show s + 1 + f = s + (f + 1) by omega]
/-- the model's reading stands at a token -/
def MTK (O : RW) (b : RW) (n : Nat) (t : Tk) : Prop := O 7 = nI t.1 ∧ O 8 = nI t.2.1 ∧ O 9 = nI t.2.2 ∧ (t.1 = 2 → t.2.2 - t.2.1 ≤ 3 → O 10 = numT b t) ∧ ∃ e0, e0 ≤ n ∧ t = tk b n e0
/-- the tapes: n bytes, the class's b, the model's X 5 -/
def BT (O : RW) (X : WM) (b : RW) (n : Nat) : Prop := O 6 = nI n ∧ n ≤ 200 ∧ BR b (X 5) n
theorem BT.eqT {O O1 : RW} {X : WM} {b : RW} {n : Nat} (h : BT O X b n) (e : EqT O O1) : BT O1 X b n := ⟨(e 6 (by omega)).trans h.1, h.2⟩
theorem tk_le {b : RW} {n e0 : Nat} (h : e0 ≤ n) : (tk b n e0).1 ≤ 3 ∧ e0 ≤ (tk b n e0).2.1 ∧ (tk b n e0).2.1 ≤ n ∧ (tk b n e0).2.1 ≤ (tk b n e0).2.2 ∧ (tk b n e0).2.2 ≤ n ∧ ((tk b n e0).1 = 3 → (tk b n e0).2.1 < n) ∧ ((tk b n e0).1 = 0 → n ≤ (tk b n e0).2.1) ∧ ((tk b n e0).1 ≠ 0 → (tk b n e0).2.1 < (tk b n e0).2.2) := by
  have hs := skB_le b n (n - e0) e0 h
  refine ⟨tok_k, hs.1, hs.2, ?_⟩
  show skB b n (n - e0) e0 ≤ tokE b n (skB b n (n - e0) e0) ∧ tokE b n (skB b n (n - e0) e0) ≤ n ∧ (tokK b n (skB b n (n - e0) e0) = 3 → skB b n (n - e0) e0 < n) ∧ (tokK b n (skB b n (n - e0) e0) = 0 → n ≤ skB b n (n - e0) e0) ∧ (tokK b n (skB b n (n - e0) e0) ≠ 0 → skB b n (n - e0) e0 < tokE b n (skB b n (n - e0) e0))
  have hs2 := hs.2
  generalize skB b n (n - e0) e0 = s at hs2
  have sp1 : ∀ lo hi : Int32, s < n → lo ≤ b s ∧ b s ≤ hi → s < spB b n lo hi (n - s) s := fun lo hi c q => by
    rw [show n - s = (n - s - 1) + 1 by omega]
    unfold spB
    rw [if_pos ⟨c, q⟩]
    have := (spB_le b n lo hi (n - s - 1) (s + 1) c).1
    omega
  unfold tokK tokE
  by_cases c1 : n ≤ s
  · rw [if_pos c1, if_pos c1]
    exact ⟨Nat.le_refl _, hs2, by omega, fun _ => c1, fun q => absurd rfl q⟩
  · rw [if_neg c1, if_neg c1]
    by_cases c2 : 97 ≤ b s ∧ b s ≤ 122
    · rw [if_pos c2, if_pos c2]
      have z := spB_le b n 97 122 (n - s) s hs2
      exact ⟨z.1, z.2, by omega, by omega, fun _ => sp1 _ _ (by omega) c2⟩
    · rw [if_neg c2, if_neg c2]
      by_cases c3 : 48 ≤ b s ∧ b s ≤ 57
      · rw [if_pos c3, if_pos c3]
        have z := spB_le b n 48 57 (n - s) s hs2
        exact ⟨z.1, z.2, by omega, by omega, fun _ => sp1 _ _ (by omega) c3⟩
      · rw [if_neg c3, if_neg c3]
        exact ⟨by omega, by omega, by omega, by omega, by omega⟩
theorem sp_end {b : RW} {n i : Nat} {lo hi : Int32} (h : i ≤ n) (c : ¬ (i < n ∧ lo ≤ b i ∧ b i ≤ hi)) : spB b n lo hi (n - i) i = i := by
  by_cases e : i = n
  · rw [e, Nat.sub_self]
    rfl
  · rw [show n - i = (n - i - 1) + 1 by omega]
    exact if_neg c
theorem sp_go {b : RW} {n i : Nat} {lo hi : Int32} (c : i < n ∧ lo ≤ b i ∧ b i ≤ hi) : spB b n lo hi (n - i) i = spB b n lo hi (n - (i + 1)) (i + 1) := by
  rw [show n - i = (n - (i + 1)) + 1 by omega]
  exact if_pos c
theorem tok_cl {b Y : RW} {n s : Nat} (h : BR b Y n) {k : Nat} (h0 : byM Y n s < 0 → k = 0) (h1 : ¬ byM Y n s < 0 → 97 ≤ byM Y n s ∧ byM Y n s ≤ 122 → k = 1) (h2 : ¬ byM Y n s < 0 → ¬ (97 ≤ byM Y n s ∧ byM Y n s ≤ 122) → 48 ≤ byM Y n s ∧ byM Y n s ≤ 57 → k = 2) (h3 : ¬ byM Y n s < 0 → ¬ (97 ≤ byM Y n s ∧ byM Y n s ≤ 122) → ¬ (48 ≤ byM Y n s ∧ byM Y n s ≤ 57) → k = 3) : tokK b n s = k := by
  rw [h.neg] at h0 h1 h2 h3
  rw [h.rng (by decide) (by decide)] at h1 h2 h3
  rw [h.rng (by decide) (by decide)] at h2 h3
  unfold tokK
  by_cases c1 : n ≤ s
  · rw [if_pos c1]
    exact (h0 c1).symm
  · rw [if_neg c1]
    by_cases c2 : 97 ≤ b s ∧ b s ≤ 122
    · rw [if_pos c2]
      exact (h1 c1 ⟨by omega, c2⟩).symm
    · rw [if_neg c2]
      by_cases c3 : 48 ≤ b s ∧ b s ≤ 57
      · rw [if_pos c3]
        exact (h2 c1 (fun q => c2 q.2) ⟨by omega, c3⟩).symm
      · rw [if_neg c3]
        exact (h3 c1 (fun q => c2 q.2) (fun q => c3 q.2)).symm

set_option maxRecDepth 100000 in
set_option maxHeartbeats 4000000 in
theorem c_X6_nextToken (l : Launch) (G : GE) {ad : Nat → Nat} {M : WM} {O S : RW} {X : WM} {b : RW} {n e0 : Nat} (h0 : BT O X b n) (h9 : O 9 = nI e0) (he : e0 ≤ n) (hM : M = mkM O S X)  : CT l G yX6_nextToken cX6_nextToken 2 none 1 [.ref (ad 0)] 14 ad (shM G ad) M (PV (fun u => ∃ O', u = mkM O' S X ∧ EqT O O' ∧ MTK O' b n (tk b n e0))) := by
  refine CT.of (own := RX6) rfl rfl (le_b rfl) fun p e s m args below meth c A C0 hr => ?_
  refine AW.lo (ls2 := [(0, _)]) rfl ?_
  subst hM
  obtain ⟨h6, hn2, hb⟩ := id h0
  have hs := skB_le b n (n - e0) e0 he
  generalize hS : skB b n (n - e0) e0 = ss at hs
  have hk3 : tokK b n ss ≤ 3 := tok_k
  have f201 : ∀ (O1 : RW), EqT O O1 → O1 7 = nI (tokK b n ss) → O1 8 = nI ss → O1 9 = nI (tokF b n ss) → (tokK b n ss = 2 → tokF b n ss - ss ≤ 3 → O1 10 = nmB b (tokF b n ss - ss) ss 0) → AW p l e (rmk 1) s m args below meth c G A 14 ad (shM G ad) 2 0 0 (MQ below (CQ G 14 ad (shM G ad) A (PV (fun u => ∃ O', u = mkM O' S X ∧ EqT O O' ∧ MTK O' b n (tk b n e0)))) args s 0 0 A) 201 [(0, .ref (ad 0))] [] (mkM O1 S X) := by
    intro O1 eT g7 g8 g9 g10
    have h211 : (O1 7 ≤ 2) ↔ ¬ 2 < tokK b n ss := by
      rw [g7]
      exact (nI_leI (b := 2) (by omega) (by decide)).trans Nat.not_lt.symm
    refine a_aload_n C0 0 dX6_nextToken_201 rfl rfl ?_
    refine a_dup C0 dX6_nextToken_202 rfl ?_
    refine g_X6_64 C0 (lt_b rfl) rfl rfl dX6_nextToken_203 ?_
    refine a_aload_n C0 0 dX6_nextToken_206 rfl rfl ?_
    refine g_X6_81 C0 (lt_b rfl) rfl rfl dX6_nextToken_207 ?_
    refine a_iconst C0 2 dX6_nextToken_210 rfl ?_
    refine a_icmp_le C0 218 dX6_nextToken_211 rfl (fun h211_ => ?_) (fun h211_ => ?_)
    · refine a_iconst C0 0 dX6_nextToken_218 rfl ?_
      refine a_iadd C0 dX6_nextToken_219 ?_
      refine p_X6_64 C0 (lt_b rfl) rfl (lt_b rfl) rfl rfl dX6_nextToken_220 ?_
      refine a_vret C0 hr dX6_nextToken_223 ?_
      rw [mkM_O]
      refine ⟨rfl, _, rfl, eT.up (by decide) (by decide), (show O1 7 = nI (tokK b n (skB b n (n - e0) e0)) from by rw [hS]; exact g7), ?_, ?_, ?_, e0, he, rfl⟩
      · show O1 8 = nI (skB b n (n - e0) e0)
        rw [hS]
        exact g8
      · show O1 9 + _ = nI (tokE b n (skB b n (n - e0) e0))
        rw [hS, tok_e, g9]
        first
          | (rw [if_neg (h211.mp h211_), show (0 : Int32) = nI 0 from rfl, nI_add]
             rfl)
          | (rw [if_pos (Classical.byContradiction fun q => h211_ (h211.mpr q)), nI_1])
      · show tokK b n (skB b n (n - e0) e0) = 2 → tokE b n (skB b n (n - e0) e0) - skB b n (n - e0) e0 ≤ 3 → _ = nmB b (tokE b n (skB b n (n - e0) e0) - skB b n (n - e0) e0) (skB b n (n - e0) e0) 0
        rw [hS, tok_e]
        intro q
        rw [if_neg (by omega)]
        exact g10 q
    · refine a_iconst C0 1 dX6_nextToken_214 rfl ?_
      refine a_goto C0 219 dX6_nextToken_215 rfl ?_
      refine a_iadd C0 dX6_nextToken_219 ?_
      refine p_X6_64 C0 (lt_b rfl) rfl (lt_b rfl) rfl rfl dX6_nextToken_220 ?_
      refine a_vret C0 hr dX6_nextToken_223 ?_
      rw [mkM_O]
      refine ⟨rfl, _, rfl, eT.up (by decide) (by decide), (show O1 7 = nI (tokK b n (skB b n (n - e0) e0)) from by rw [hS]; exact g7), ?_, ?_, ?_, e0, he, rfl⟩
      · show O1 8 = nI (skB b n (n - e0) e0)
        rw [hS]
        exact g8
      · show O1 9 + _ = nI (tokE b n (skB b n (n - e0) e0))
        rw [hS, tok_e, g9]
        first
          | (rw [if_neg (h211.mp h211_), show (0 : Int32) = nI 0 from rfl, nI_add]
             rfl)
          | (rw [if_pos (Classical.byContradiction fun q => h211_ (h211.mpr q)), nI_1])
      · show tokK b n (skB b n (n - e0) e0) = 2 → tokE b n (skB b n (n - e0) e0) - skB b n (n - e0) e0 ≤ 3 → _ = nmB b (tokE b n (skB b n (n - e0) e0) - skB b n (n - e0) e0) (skB b n (n - e0) e0) 0
        rw [hS, tok_e]
        intro q
        rw [if_neg (by omega)]
        exact g10 q
  have l126 : ∀ (z : Nat) (i : Nat) (O1 : RW), n + 1 - i < z → (EqT O O1) → (O1 7 = nI (tokK b n ss)) → (O1 8 = nI ss) → (O1 9 = nI i) → (i ≤ n) → (tokK b n ss ≠ 2 → i = tokF b n ss) → (tokK b n ss = 2 → ss ≤ i ∧ spB b n 48 57 (n - i) i = tokF b n ss) → (tokK b n ss = 2 → i - ss ≤ 3 → ∃ v, v < 10 ^ (i - ss) ∧ O1 10 = nI v ∧ nmB b (i - ss) ss 0 = nI v) → AW p l e (rmk 1) s m args below meth c G A 14 ad (shM G ad) 2 0 0 (MQ below (CQ G 14 ad (shM G ad) A (PV (fun u => ∃ O', u = mkM O' S X ∧ EqT O O' ∧ MTK O' b n (tk b n e0)))) args s 0 0 A) 126 [(0, .ref (ad 0))] [] (mkM O1 S X) := by
    intro z
    induction z with
    | zero =>
      intro i O1 hn
      exact absurd hn (Nat.not_lt_zero _)
    | succ z ih =>
      intro i O1 hn eT g7 g8 g9 hin hne hsp g10
      refine a_aload_n C0 0 dX6_nextToken_126 rfl rfl ?_
      refine g_X6_81 C0 (lt_b rfl) rfl rfl dX6_nextToken_127 ?_
      refine a_iconst C0 2 dX6_nextToken_130 rfl ?_
      refine a_icmp_ne C0 201 dX6_nextToken_131 rfl (fun h131 => ?_) (fun h131 => ?_)
      · refine f201 O1 eT g7 g8 ?_ ?_
        · rw [g9]
          congr 1
          by_cases hk : tokK b n ss = 2
          · have z := (hsp hk).2
            first
              | exact absurd (by rw [show mkM O1 S X 0 7 = O1 7 from rfl, g7, hk]; rfl) h131
              | (rw [← z]
                 exact (sp_end hin fun q => h145 ((hb.rng (by decide) (by decide)).mpr q)).symm)
          · exact hne hk
        · intro hk hle
          have z := (hsp hk).2
          first
            | exact absurd (by rw [show mkM O1 S X 0 7 = O1 7 from rfl, g7, hk]; rfl) h131
            | (have e : tokF b n ss = i := by
                 rw [← z]
                 exact sp_end hin fun q => h145 ((hb.rng (by decide) (by decide)).mpr q)
               rw [e] at hle ⊢
               obtain ⟨v, -, e1, e2⟩ := g10 hk hle
               rw [e1, e2])
      · refine a_aload_n C0 0 dX6_nextToken_134 rfl rfl ?_
        refine a_aload_n C0 0 dX6_nextToken_135 rfl rfl ?_
        refine g_X6_64 C0 (lt_b rfl) rfl rfl dX6_nextToken_136 ?_
        refine a_callV _ 1 C0 EM.refl (c_X6_byteAt l G ((eT 6 (by omega)).trans h6) hn2 g9 (by omega) rfl) u_c_X6_byteAt u_m_X6_70 u_im_X6_byteAt u_se_X6_byteAt u_in_X6 hy_X6_byteAt rfl (lt_b rfl) rfl (hRk rfl) rfl rfl (le_b rfl) dX6_nextToken_139 (k_ro EM.refl ?_)
        refine a_callS _ 1 C0 EM.z (c_X6_isDigit l G) u_c_X6_isDigit u_m_X6_78 u_st_X6_isDigit u_in_X6 hy_X6_isDigit.2 (hRk rfl) rfl rfl (le_b rfl) dX6_nextToken_142 (k_ro EM.z ?_)
        refine a_if_eqb C0 201 dX6_nextToken_145 rfl (fun h145 => ?_) (fun h145 => ?_)
        · refine f201 O1 eT g7 g8 ?_ ?_
          · rw [g9]
            congr 1
            by_cases hk : tokK b n ss = 2
            · have z := (hsp hk).2
              first
                | exact absurd (by rw [show mkM O1 S X 0 7 = O1 7 from rfl, g7, hk]; rfl) h131
                | (rw [← z]
                   exact (sp_end hin fun q => h145 ((hb.rng (by decide) (by decide)).mpr q)).symm)
            · exact hne hk
          · intro hk hle
            have z := (hsp hk).2
            first
              | exact absurd (by rw [show mkM O1 S X 0 7 = O1 7 from rfl, g7, hk]; rfl) h131
              | (have e : tokF b n ss = i := by
                   rw [← z]
                   exact sp_end hin fun q => h145 ((hb.rng (by decide) (by decide)).mpr q)
                 rw [e] at hle ⊢
                 obtain ⟨v, -, e1, e2⟩ := g10 hk hle
                 rw [e1, e2])
        · have hk : tokK b n ss = 2 := by
            have q : nI (tokK b n ss) = nI 2 := g7.symm.trans h131
            exact (nI_eq (by omega) (by decide)).mp q
          have hd := (hb.rng (by decide) (by decide)).mp h145
          have hby : byM (X 5) n i = b i := by
            rcases hb i hd.1 with q | q
            · exact (if_pos hd.1).trans q.2.2
            · exact absurd (Int32.le_trans (by decide) hd.2.1) (Int32.not_le.mpr q.1)
          refine a_aload_n C0 0 dX6_nextToken_148 rfl rfl ?_
          refine a_aload_n C0 0 dX6_nextToken_149 rfl rfl ?_
          refine g_X6_84 C0 (lt_b rfl) rfl rfl dX6_nextToken_150 ?_
          refine a_sipush C0 999 dX6_nextToken_153 rfl ?_
          refine a_icmp_le C0 166 dX6_nextToken_156 rfl (fun h156 => ?_) (fun h156 => ?_)
          · refine a_bipush C0 10 dX6_nextToken_166 rfl ?_
            refine a_aload_n C0 0 dX6_nextToken_168 rfl rfl ?_
            refine g_X6_84 C0 (lt_b rfl) rfl rfl dX6_nextToken_169 ?_
            refine a_imul C0 dX6_nextToken_172 ?_
            refine a_aload_n C0 0 dX6_nextToken_173 rfl rfl ?_
            refine a_aload_n C0 0 dX6_nextToken_174 rfl rfl ?_
            refine g_X6_64 C0 (lt_b rfl) rfl rfl dX6_nextToken_175 ?_
            refine a_callV _ 1 C0 EM.refl (c_X6_byteAt l G ((eT 6 (by omega)).trans h6) hn2 g9 (by omega) rfl) u_c_X6_byteAt u_m_X6_70 u_im_X6_byteAt u_se_X6_byteAt u_in_X6 hy_X6_byteAt rfl (lt_b rfl) rfl (hRk rfl) rfl rfl (le_b rfl) dX6_nextToken_178 (k_ro EM.refl ?_)
            refine a_iadd C0 dX6_nextToken_181 ?_
            refine a_bipush C0 48 dX6_nextToken_182 rfl ?_
            refine a_isub C0 dX6_nextToken_184 ?_
            refine p_X6_84 C0 (lt_b rfl) rfl (lt_b rfl) rfl rfl dX6_nextToken_185 ?_
            refine a_aload_n C0 0 dX6_nextToken_188 rfl rfl ?_
            refine a_dup C0 dX6_nextToken_189 rfl ?_
            refine g_X6_64 C0 (lt_b rfl) rfl rfl dX6_nextToken_190 ?_
            refine a_iconst C0 1 dX6_nextToken_193 rfl ?_
            refine a_iadd C0 dX6_nextToken_194 ?_
            refine p_X6_64 C0 (lt_b rfl) rfl (lt_b rfl) rfl rfl dX6_nextToken_195 ?_
            refine a_goto C0 126 dX6_nextToken_198 rfl ?_
            rw [mkM_O, mkM_O]
            refine ih (i + 1) _ (by omega) ((eT.up (by decide) (by decide)).up (by decide) (by decide)) g7 g8 (show O1 9 + 1 = _ by rw [g9, nI_1]) hd.1 (fun q => absurd hk q) (fun _ => ⟨by omega, ?_⟩) (fun _ hle => ?_)
            · rw [← sp_go hd]
              exact (hsp hk).2
            · have hsi := (hsp hk).1
              obtain ⟨v, hv, e1, e2⟩ := g10 hk (by omega)
              have hv1 : v < 100 := by
                have q : 10 ^ (i - ss) ≤ 10 ^ 2 := Nat.pow_le_pow_right (by decide) (by omega)
                omega
              obtain ⟨d, hd10, ed⟩ := dig_N hd.2
              have hn999 : ¬ O1 10 > 999 := fun q => by
                rw [e1] at q
                have q2 := (nI_ltI (a := 999) (by decide) (by omega)).mp q
                omega
              first
                | exact absurd (Int32.not_le.mp h156) hn999
                | (refine ⟨10 * v + d, ?_, ?_, ?_⟩
                   · rw [show i + 1 - ss = (i - ss) + 1 by omega, Nat.pow_succ]
                     omega
                   · show 10 * O1 10 + byM (X 5) n i - 48 = _
                     rw [hby, Int32.sub_eq_add_neg, Int32.add_assoc, ← Int32.sub_eq_add_neg, ed, e1, show (10 : Int32) = nI 10 from rfl, pk_mul, nI_add]
                   · rw [show i + 1 - ss = (i - ss) + 1 by omega, nmB_s, e2, show ss + (i - ss) = i by omega, ed, show (10 : Int32) = nI 10 from rfl, pk_mul, nI_add, Nat.mul_comm])
          · refine a_aload_n C0 0 dX6_nextToken_159 rfl rfl ?_
            refine g_X6_84 C0 (lt_b rfl) rfl rfl dX6_nextToken_160 ?_
            refine a_goto C0 185 dX6_nextToken_163 rfl ?_
            refine p_X6_84 C0 (lt_b rfl) rfl (lt_b rfl) rfl rfl dX6_nextToken_185 ?_
            refine a_aload_n C0 0 dX6_nextToken_188 rfl rfl ?_
            refine a_dup C0 dX6_nextToken_189 rfl ?_
            refine g_X6_64 C0 (lt_b rfl) rfl rfl dX6_nextToken_190 ?_
            refine a_iconst C0 1 dX6_nextToken_193 rfl ?_
            refine a_iadd C0 dX6_nextToken_194 ?_
            refine p_X6_64 C0 (lt_b rfl) rfl (lt_b rfl) rfl rfl dX6_nextToken_195 ?_
            refine a_goto C0 126 dX6_nextToken_198 rfl ?_
            rw [mkM_O, mkM_O]
            refine ih (i + 1) _ (by omega) ((eT.up (by decide) (by decide)).up (by decide) (by decide)) g7 g8 (show O1 9 + 1 = _ by rw [g9, nI_1]) hd.1 (fun q => absurd hk q) (fun _ => ⟨by omega, ?_⟩) (fun _ hle => ?_)
            · rw [← sp_go hd]
              exact (hsp hk).2
            · have hsi := (hsp hk).1
              obtain ⟨v, hv, e1, e2⟩ := g10 hk (by omega)
              have hv1 : v < 100 := by
                have q : 10 ^ (i - ss) ≤ 10 ^ 2 := Nat.pow_le_pow_right (by decide) (by omega)
                omega
              obtain ⟨d, hd10, ed⟩ := dig_N hd.2
              have hn999 : ¬ O1 10 > 999 := fun q => by
                rw [e1] at q
                have q2 := (nI_ltI (a := 999) (by decide) (by omega)).mp q
                omega
              first
                | exact absurd (Int32.not_le.mp h156) hn999
                | (refine ⟨10 * v + d, ?_, ?_, ?_⟩
                   · rw [show i + 1 - ss = (i - ss) + 1 by omega, Nat.pow_succ]
                     omega
                   · show 10 * O1 10 + byM (X 5) n i - 48 = _
                     rw [hby, Int32.sub_eq_add_neg, Int32.add_assoc, ← Int32.sub_eq_add_neg, ed, e1, show (10 : Int32) = nI 10 from rfl, pk_mul, nI_add]
                   · rw [show i + 1 - ss = (i - ss) + 1 by omega, nmB_s, e2, show ss + (i - ss) = i by omega, ed, show (10 : Int32) = nI 10 from rfl, pk_mul, nI_add, Nat.mul_comm])
  have l91 : ∀ (z : Nat) (i : Nat) (O1 : RW), n + 1 - i < z → (EqT O O1) → (O1 7 = nI (tokK b n ss)) → (O1 8 = nI ss) → (O1 9 = nI i) → (ss ≤ i ∧ i ≤ n) → (tokK b n ss ≠ 1 → i = ss) → (tokK b n ss = 1 → spB b n 97 122 (n - i) i = tokF b n ss) → (O1 10 = 0) → AW p l e (rmk 1) s m args below meth c G A 14 ad (shM G ad) 2 0 0 (MQ below (CQ G 14 ad (shM G ad) A (PV (fun u => ∃ O', u = mkM O' S X ∧ EqT O O' ∧ MTK O' b n (tk b n e0)))) args s 0 0 A) 91 [(0, .ref (ad 0))] [] (mkM O1 S X) := by
    intro z
    induction z with
    | zero =>
      intro i O1 hn
      exact absurd hn (Nat.not_lt_zero _)
    | succ z ih =>
      intro i O1 hn eT g7 g8 g9 hin hne hsp g10
      refine a_aload_n C0 0 dX6_nextToken_91 rfl rfl ?_
      refine g_X6_81 C0 (lt_b rfl) rfl rfl dX6_nextToken_92 ?_
      refine a_iconst C0 1 dX6_nextToken_95 rfl ?_
      refine a_icmp_ne C0 126 dX6_nextToken_96 rfl (fun h96 => ?_) (fun h96 => ?_)
      · have e1 : tokK b n ss = 1 → i = tokF b n ss := fun hk => by
          have z := hsp hk
          first
            | exact absurd (by rw [show mkM O1 S X 0 7 = O1 7 from rfl, g7, hk]; rfl) h96
            | (rw [← z]
               exact (sp_end hin.2 fun q => h110 ((hb.rng (by decide) (by decide)).mpr q)).symm)
        refine l126 (n + 2) i O1 (by omega) eT g7 g8 g9 hin.2 (fun h2 => ?_) (fun h2 => ?_) (fun h2 _ => ?_)
        · by_cases hk : tokK b n ss = 1
          · exact e1 hk
          · rw [hne hk]
            exact ((if_neg hk).trans (if_neg h2)).symm
        · have hi := hne (by omega)
          refine ⟨by omega, ?_⟩
          rw [hi]
          exact ((if_neg (by omega)).trans (if_pos h2)).symm
        · have hi := hne (by omega)
          refine ⟨0, Nat.pow_pos (by decide), g10, ?_⟩
          rw [hi, Nat.sub_self]
          rfl
      · refine a_aload_n C0 0 dX6_nextToken_99 rfl rfl ?_
        refine a_aload_n C0 0 dX6_nextToken_100 rfl rfl ?_
        refine g_X6_64 C0 (lt_b rfl) rfl rfl dX6_nextToken_101 ?_
        refine a_callV _ 1 C0 EM.refl (c_X6_byteAt l G ((eT 6 (by omega)).trans h6) hn2 g9 (by omega) rfl) u_c_X6_byteAt u_m_X6_70 u_im_X6_byteAt u_se_X6_byteAt u_in_X6 hy_X6_byteAt rfl (lt_b rfl) rfl (hRk rfl) rfl rfl (le_b rfl) dX6_nextToken_104 (k_ro EM.refl ?_)
        refine a_callS _ 1 C0 EM.z (c_X6_isAlpha l G) u_c_X6_isAlpha u_m_X6_74 u_st_X6_isAlpha u_in_X6 hy_X6_isAlpha.2 (hRk rfl) rfl rfl (le_b rfl) dX6_nextToken_107 (k_ro EM.z ?_)
        refine a_if_eqb C0 126 dX6_nextToken_110 rfl (fun h110 => ?_) (fun h110 => ?_)
        · have e1 : tokK b n ss = 1 → i = tokF b n ss := fun hk => by
            have z := hsp hk
            first
              | exact absurd (by rw [show mkM O1 S X 0 7 = O1 7 from rfl, g7, hk]; rfl) h96
              | (rw [← z]
                 exact (sp_end hin.2 fun q => h110 ((hb.rng (by decide) (by decide)).mpr q)).symm)
          refine l126 (n + 2) i O1 (by omega) eT g7 g8 g9 hin.2 (fun h2 => ?_) (fun h2 => ?_) (fun h2 _ => ?_)
          · by_cases hk : tokK b n ss = 1
            · exact e1 hk
            · rw [hne hk]
              exact ((if_neg hk).trans (if_neg h2)).symm
          · have hi := hne (by omega)
            refine ⟨by omega, ?_⟩
            rw [hi]
            exact ((if_neg (by omega)).trans (if_pos h2)).symm
          · have hi := hne (by omega)
            refine ⟨0, Nat.pow_pos (by decide), g10, ?_⟩
            rw [hi, Nat.sub_self]
            rfl
        · have hk : tokK b n ss = 1 := by
            have q : nI (tokK b n ss) = nI 1 := g7.symm.trans h96
            exact (nI_eq (by omega) (by decide)).mp q
          have hd := (hb.rng (by decide) (by decide)).mp h110
          refine a_aload_n C0 0 dX6_nextToken_113 rfl rfl ?_
          refine a_dup C0 dX6_nextToken_114 rfl ?_
          refine g_X6_64 C0 (lt_b rfl) rfl rfl dX6_nextToken_115 ?_
          refine a_iconst C0 1 dX6_nextToken_118 rfl ?_
          refine a_iadd C0 dX6_nextToken_119 ?_
          refine p_X6_64 C0 (lt_b rfl) rfl (lt_b rfl) rfl rfl dX6_nextToken_120 ?_
          refine a_goto C0 91 dX6_nextToken_123 rfl ?_
          rw [mkM_O]
          exact ih (i + 1) _ (by omega) (eT.up (by decide) (by decide)) g7 g8 (show O1 9 + 1 = _ by rw [g9, nI_1]) ⟨by omega, hd.1⟩ (fun q => absurd hk q) (fun _ => by
            rw [← sp_go hd]
            exact hsp hk) g10
  have f34 : ∀ (O1 : RW), EqT O O1 → O1 8 = nI ss → AW p l e (rmk 1) s m args below meth c G A 14 ad (shM G ad) 2 0 0 (MQ below (CQ G 14 ad (shM G ad) A (PV (fun u => ∃ O', u = mkM O' S X ∧ EqT O O' ∧ MTK O' b n (tk b n e0)))) args s 0 0 A) 34 [(0, .ref (ad 0))] [] (mkM O1 S X) := by
    intro O1 eT g8
    refine a_aload_n C0 0 dX6_nextToken_34 rfl rfl ?_
    refine a_aload_n C0 0 dX6_nextToken_35 rfl rfl ?_
    refine g_X6_67 C0 (lt_b rfl) rfl rfl dX6_nextToken_36 ?_
    refine p_X6_64 C0 (lt_b rfl) rfl (lt_b rfl) rfl rfl dX6_nextToken_39 ?_
    rw [mkM_O]
    refine a_aload_n C0 0 dX6_nextToken_42 rfl rfl ?_
    refine a_aload_n C0 0 dX6_nextToken_43 rfl rfl ?_
    refine g_X6_67 C0 (lt_b rfl) rfl rfl dX6_nextToken_44 ?_
    refine a_callV _ 1 C0 EM.refl (c_X6_byteAt l G (((eT.up (i := 9) (by decide) (by decide)) 6 (by omega)).trans h6) hn2 (show upS O1 9 _ 8 = _ from g8) (by omega) rfl) u_c_X6_byteAt u_m_X6_70 u_im_X6_byteAt u_se_X6_byteAt u_in_X6 hy_X6_byteAt rfl (lt_b rfl) rfl (hRk rfl) rfl rfl (le_b rfl) dX6_nextToken_47 (k_ro EM.refl ?_)
    refine a_istore_n (ls2 := [(1, _), (0, _)]) C0 dX6_nextToken_50 rfl (lt_b rfl) rfl ?_
    refine a_aload_n C0 1 dX6_nextToken_51 rfl rfl ?_
    refine a_iload_n C0 0 dX6_nextToken_52 rfl rfl ?_
    refine a_if_ge C0 60 dX6_nextToken_53 rfl (fun h53 => ?_) (fun h53 => ?_)
    · refine a_iload_n C0 0 dX6_nextToken_60 rfl rfl ?_
      refine a_callS _ 1 C0 EM.z (c_X6_isAlpha l G) u_c_X6_isAlpha u_m_X6_74 u_st_X6_isAlpha u_in_X6 hy_X6_isAlpha.2 (hRk rfl) rfl rfl (le_b rfl) dX6_nextToken_61 (k_ro EM.z ?_)
      refine a_if_eqb C0 71 dX6_nextToken_64 rfl (fun h64 => ?_) (fun h64 => ?_)
      · refine a_iload_n C0 0 dX6_nextToken_71 rfl rfl ?_
        refine a_callS _ 1 C0 EM.z (c_X6_isDigit l G) u_c_X6_isDigit u_m_X6_78 u_st_X6_isDigit u_in_X6 hy_X6_isDigit.2 (hRk rfl) rfl rfl (le_b rfl) dX6_nextToken_72 (k_ro EM.z ?_)
        refine a_if_eqb C0 82 dX6_nextToken_75 rfl (fun h75 => ?_) (fun h75 => ?_)
        · refine a_iconst C0 3 dX6_nextToken_82 rfl ?_
          refine p_X6_81 C0 (lt_b rfl) rfl (lt_b rfl) rfl rfl dX6_nextToken_83 ?_
          rw [mkM_O]
          refine a_aload_n C0 1 dX6_nextToken_86 rfl rfl ?_
          refine a_iconst C0 0 dX6_nextToken_87 rfl ?_
          refine p_X6_84 C0 (lt_b rfl) rfl (lt_b rfl) rfl rfl dX6_nextToken_88 ?_
          refine AW.sub (ls2 := [(0, _)]) [1] rfl ?_
          rw [mkM_O]
          refine l91 (n + 2) ss _ (by omega) (((eT.up (by decide) (by decide)).up (by decide) (by decide)).up (by decide) (by decide)) ?_ g8 g8 ⟨Nat.le_refl _, hs.2⟩ (fun _ => rfl) (fun q => (if_pos q).symm) rfl
          have hK := fun k => @tok_cl b (X 5) n ss hb k
          first
            | exact congrArg nI (hK 0 (fun _ => rfl) (fun q => absurd (Int32.not_le.mp h53) q) (fun q => absurd (Int32.not_le.mp h53) q) (fun q => absurd (Int32.not_le.mp h53) q)).symm
            | exact congrArg nI (hK 1 (fun q => absurd q (Int32.not_lt.mpr h53)) (fun _ _ => rfl) (fun _ q => absurd h64 q) (fun _ q => absurd h64 q)).symm
            | exact congrArg nI (hK 2 (fun q => absurd q (Int32.not_lt.mpr h53)) (fun _ q => absurd q h64) (fun _ _ _ => rfl) (fun _ _ q => absurd h75 q)).symm
            | exact congrArg nI (hK 3 (fun q => absurd q (Int32.not_lt.mpr h53)) (fun _ q => absurd q h64) (fun _ _ q => absurd q h75) (fun _ _ _ => rfl)).symm
        · refine a_iconst C0 2 dX6_nextToken_78 rfl ?_
          refine a_goto C0 83 dX6_nextToken_79 rfl ?_
          refine p_X6_81 C0 (lt_b rfl) rfl (lt_b rfl) rfl rfl dX6_nextToken_83 ?_
          rw [mkM_O]
          refine a_aload_n C0 1 dX6_nextToken_86 rfl rfl ?_
          refine a_iconst C0 0 dX6_nextToken_87 rfl ?_
          refine p_X6_84 C0 (lt_b rfl) rfl (lt_b rfl) rfl rfl dX6_nextToken_88 ?_
          refine AW.sub (ls2 := [(0, _)]) [1] rfl ?_
          rw [mkM_O]
          refine l91 (n + 2) ss _ (by omega) (((eT.up (by decide) (by decide)).up (by decide) (by decide)).up (by decide) (by decide)) ?_ g8 g8 ⟨Nat.le_refl _, hs.2⟩ (fun _ => rfl) (fun q => (if_pos q).symm) rfl
          have hK := fun k => @tok_cl b (X 5) n ss hb k
          first
            | exact congrArg nI (hK 0 (fun _ => rfl) (fun q => absurd (Int32.not_le.mp h53) q) (fun q => absurd (Int32.not_le.mp h53) q) (fun q => absurd (Int32.not_le.mp h53) q)).symm
            | exact congrArg nI (hK 1 (fun q => absurd q (Int32.not_lt.mpr h53)) (fun _ _ => rfl) (fun _ q => absurd h64 q) (fun _ q => absurd h64 q)).symm
            | exact congrArg nI (hK 2 (fun q => absurd q (Int32.not_lt.mpr h53)) (fun _ q => absurd q h64) (fun _ _ _ => rfl) (fun _ _ q => absurd h75 q)).symm
            | exact congrArg nI (hK 3 (fun q => absurd q (Int32.not_lt.mpr h53)) (fun _ q => absurd q h64) (fun _ _ q => absurd q h75) (fun _ _ _ => rfl)).symm
      · refine a_iconst C0 1 dX6_nextToken_67 rfl ?_
        refine a_goto C0 83 dX6_nextToken_68 rfl ?_
        refine p_X6_81 C0 (lt_b rfl) rfl (lt_b rfl) rfl rfl dX6_nextToken_83 ?_
        rw [mkM_O]
        refine a_aload_n C0 1 dX6_nextToken_86 rfl rfl ?_
        refine a_iconst C0 0 dX6_nextToken_87 rfl ?_
        refine p_X6_84 C0 (lt_b rfl) rfl (lt_b rfl) rfl rfl dX6_nextToken_88 ?_
        refine AW.sub (ls2 := [(0, _)]) [1] rfl ?_
        rw [mkM_O]
        refine l91 (n + 2) ss _ (by omega) (((eT.up (by decide) (by decide)).up (by decide) (by decide)).up (by decide) (by decide)) ?_ g8 g8 ⟨Nat.le_refl _, hs.2⟩ (fun _ => rfl) (fun q => (if_pos q).symm) rfl
        have hK := fun k => @tok_cl b (X 5) n ss hb k
        first
          | exact congrArg nI (hK 0 (fun _ => rfl) (fun q => absurd (Int32.not_le.mp h53) q) (fun q => absurd (Int32.not_le.mp h53) q) (fun q => absurd (Int32.not_le.mp h53) q)).symm
          | exact congrArg nI (hK 1 (fun q => absurd q (Int32.not_lt.mpr h53)) (fun _ _ => rfl) (fun _ q => absurd h64 q) (fun _ q => absurd h64 q)).symm
          | exact congrArg nI (hK 2 (fun q => absurd q (Int32.not_lt.mpr h53)) (fun _ q => absurd q h64) (fun _ _ _ => rfl) (fun _ _ q => absurd h75 q)).symm
          | exact congrArg nI (hK 3 (fun q => absurd q (Int32.not_lt.mpr h53)) (fun _ q => absurd q h64) (fun _ _ q => absurd q h75) (fun _ _ _ => rfl)).symm
    · refine a_iconst C0 0 dX6_nextToken_56 rfl ?_
      refine a_goto C0 83 dX6_nextToken_57 rfl ?_
      refine p_X6_81 C0 (lt_b rfl) rfl (lt_b rfl) rfl rfl dX6_nextToken_83 ?_
      rw [mkM_O]
      refine a_aload_n C0 1 dX6_nextToken_86 rfl rfl ?_
      refine a_iconst C0 0 dX6_nextToken_87 rfl ?_
      refine p_X6_84 C0 (lt_b rfl) rfl (lt_b rfl) rfl rfl dX6_nextToken_88 ?_
      refine AW.sub (ls2 := [(0, _)]) [1] rfl ?_
      rw [mkM_O]
      refine l91 (n + 2) ss _ (by omega) (((eT.up (by decide) (by decide)).up (by decide) (by decide)).up (by decide) (by decide)) ?_ g8 g8 ⟨Nat.le_refl _, hs.2⟩ (fun _ => rfl) (fun q => (if_pos q).symm) rfl
      have hK := fun k => @tok_cl b (X 5) n ss hb k
      first
        | exact congrArg nI (hK 0 (fun _ => rfl) (fun q => absurd (Int32.not_le.mp h53) q) (fun q => absurd (Int32.not_le.mp h53) q) (fun q => absurd (Int32.not_le.mp h53) q)).symm
        | exact congrArg nI (hK 1 (fun q => absurd q (Int32.not_lt.mpr h53)) (fun _ _ => rfl) (fun _ q => absurd h64 q) (fun _ q => absurd h64 q)).symm
        | exact congrArg nI (hK 2 (fun q => absurd q (Int32.not_lt.mpr h53)) (fun _ q => absurd q h64) (fun _ _ _ => rfl) (fun _ _ q => absurd h75 q)).symm
        | exact congrArg nI (hK 3 (fun q => absurd q (Int32.not_lt.mpr h53)) (fun _ q => absurd q h64) (fun _ _ q => absurd q h75) (fun _ _ _ => rfl)).symm
  have l8 : ∀ (z : Nat) (i : Nat) (O1 : RW), n + 1 - i < z → (EqT O O1) → (O1 8 = nI i) → (i ≤ n) → (skB b n (n - i) i = ss) → AW p l e (rmk 1) s m args below meth c G A 14 ad (shM G ad) 2 0 0 (MQ below (CQ G 14 ad (shM G ad) A (PV (fun u => ∃ O', u = mkM O' S X ∧ EqT O O' ∧ MTK O' b n (tk b n e0)))) args s 0 0 A) 8 [(0, .ref (ad 0))] [] (mkM O1 S X) := by
    intro z
    induction z with
    | zero =>
      intro i O1 hn
      exact absurd hn (Nat.not_lt_zero _)
    | succ z ih =>
      intro i O1 hn eT g8 hin hm
      refine a_aload_n C0 0 dX6_nextToken_8 rfl rfl ?_
      refine a_aload_n C0 0 dX6_nextToken_9 rfl rfl ?_
      refine g_X6_67 C0 (lt_b rfl) rfl rfl dX6_nextToken_10 ?_
      refine a_callV _ 1 C0 EM.refl (c_X6_byteAt l G ((eT 6 (by omega)).trans h6) hn2 g8 (by omega) rfl) u_c_X6_byteAt u_m_X6_70 u_im_X6_byteAt u_se_X6_byteAt u_in_X6 hy_X6_byteAt rfl (lt_b rfl) rfl (hRk rfl) rfl rfl (le_b rfl) dX6_nextToken_13 (k_ro EM.refl ?_)
      refine a_bipush C0 32 dX6_nextToken_16 rfl ?_
      refine a_icmp_ne C0 34 dX6_nextToken_18 rfl (fun h18 => ?_) (fun h18 => ?_)
      · refine f34 O1 eT ?_
        rw [g8, ← hm]
        congr 1
        by_cases e : i = n
        · rw [e, Nat.sub_self]
          rfl
        · rw [show n - i = (n - i - 1) + 1 by omega]
          exact (if_neg fun q => h18 ((hb.eq (c := 32) (by decide) (by decide)).mpr q)).symm
      · have hd := (hb.eq (c := 32) (by decide) (by decide)).mp h18
        refine a_aload_n C0 0 dX6_nextToken_21 rfl rfl ?_
        refine a_dup C0 dX6_nextToken_22 rfl ?_
        refine g_X6_67 C0 (lt_b rfl) rfl rfl dX6_nextToken_23 ?_
        refine a_iconst C0 1 dX6_nextToken_26 rfl ?_
        refine a_iadd C0 dX6_nextToken_27 ?_
        refine p_X6_67 C0 (lt_b rfl) rfl (lt_b rfl) rfl rfl dX6_nextToken_28 ?_
        refine a_goto C0 8 dX6_nextToken_31 rfl ?_
        rw [mkM_O]
        have hd := (hb.eq (c := 32) (by decide) (by decide)).mp h18
        exact ih (i + 1) _ (by omega) (eT.up (by decide) (by decide)) (show O1 8 + 1 = _ by rw [g8, nI_1]) hd.1 (by
          rw [← hm, show n - i = (n - (i + 1)) + 1 by omega]
          exact (if_pos hd).symm)
  refine a_aload_n C0 0 dX6_nextToken_0 rfl rfl ?_
  refine a_aload_n C0 0 dX6_nextToken_1 rfl rfl ?_
  refine g_X6_64 C0 (lt_b rfl) rfl rfl dX6_nextToken_2 ?_
  refine p_X6_67 C0 (lt_b rfl) rfl (lt_b rfl) rfl rfl dX6_nextToken_5 ?_
  rw [mkM_O]
  exact l8 (n + 2) e0 _ (by omega) ((EqT.refl O).up (by decide) (by decide)) h9 he hS
