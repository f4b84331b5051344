
theorem RSh.set {W X Y u : WM} {j : Nat} (r : RSh W X) (h7 : ∀ q, q < 4 → q ≠ j → Y 7 q = X 7 q) (h8 : ∀ q, q < 4 → q ≠ j → Y 8 q = X 8 q) (h9 : ∀ q, q < 4 → q ≠ j → ∀ k, k < 40 → Y 9 (40 * q + k) = X 9 (40 * q + k)) (hu : Y 7 j = u 0 0 ∧ (u 0 0 = -1 ∨ (0 ≤ u 0 0 ∧ u 0 0 ≤ 3)) ∧ ∃ cn, cn ≤ 40 ∧ u 0 1 = nI cn ∧ Y 8 j = nI cn ∧ ∀ k, k < cn → Y 9 (40 * j + k) = u 1 k) : RSh (setS W j u) Y := by
  intro q hq
  by_cases e : q = j
  · subst e
    rw [show setS W q u (2 * q) = u 0 from setS_0, show setS W q u (2 * q + 1) = u 1 from setS_1]
    exact hu
  · have e0 : setS W j u (2 * q) = W (2 * q) := by
      unfold setS
      rw [if_neg (by omega), if_neg (by omega)]
    have e1 : setS W j u (2 * q + 1) = W (2 * q + 1) := by
      unfold setS
      rw [if_neg (by omega), if_neg (by omega)]
    rw [e0, e1, h7 q hq e, h8 q hq e]
    obtain ⟨a, b, cn, hc, d, f, g⟩ := r q hq
    exact ⟨a, b, cn, hc, d, f, fun k hk => (h9 q hq e k (by omega)).trans (g k hk)⟩
/-- but for the sheets' cells -/
def EqX9 (X Y : WM) : Prop := ∀ c, c ≠ 7 → c ≠ 8 → c ≠ 9 → Y c = X c
theorem lt0 {v : Int32} (h : -1 ≤ v) : v < 0 ↔ v = -1 := by
  have a := Int32.le_iff_toInt_le.mp h
  have a : -1 ≤ v.toInt := a
  constructor
  · intro q
    have b := Int32.lt_iff_toInt_lt.mp q
    have b : v.toInt < 0 := b
    refine i32_om ?_
    show v.toInt = -1
    omega
  · intro q
    rw [q]
    decide

set_option maxRecDepth 100000 in
set_option maxHeartbeats 4000000 in
theorem c_X6_sheet (l : Launch) (G : GE) {ad : Nat → Nat} {M : WM} {O S : RW} {X : WM} {v so y : Int32} {W : WM} (rs : RSh W X) (hM : M = mkM O S X)  : CT l G yX6_sheet cX6_sheet 5 (some .int) 2 [.ref (ad 0), .int v, .int so, .int y] 14 ad (shM G ad) M (PI (fun r u => r = sheR v so y ∧ ∃ X', u = mkM O S X' ∧ EqX9 X X' ∧ RSh (sheS W v so y) X')) := by
  refine CT.of (own := RX6) rfl rfl (le_b rfl) fun p e s m args below meth c A C0 hr => ?_
  refine AW.lo (ls2 := [(0, _), (1, _), (2, _), (3, _)]) rfl ?_
  subst hM
  have lp : ∀ (n : Nat) (i : Nat) (xi sz : Int32) (X2 : WM), 40 - i < n → (i ≤ 40) → (xi = nI i) → ((isSh v ∧ (-1 ≤ so ∧ so ≤ 3))) → ((so = -1 ∧ sz = 0) ∨ (¬ so = -1 ∧ (¬ 40 < y ∧ ¬ y < 0) ∧ sz = y)) → (∀ c, c ≠ 9 → X2 c = up2 (up2 X 7 (ix v) so) 8 (ix v) sz c) → (∀ q, X2 9 q = if 40 * ix v ≤ q ∧ q < 40 * ix v + i then 0 else X 9 q) → AW p l e (rmk 2) s m args below meth c G A 14 ad (shM G ad) 5 0 0 (MQ below (CQ G 14 ad (shM G ad) A (PI (fun r u => r = sheR v so y ∧ ∃ X', u = mkM O S X' ∧ EqX9 X X' ∧ RSh (sheS W v so y) X'))) args s 0 0 A) 69 [(0, .ref (ad 0)), (1, .int v), (2, .int so), (3, .int y), (4, .int xi)] [] (mkM O S X2) := by
    intro n
    induction n with
    | zero =>
      intro i xi sz X2 hn
      exact absurd hn (Nat.not_lt_zero _)
    | succ n ih =>
      intro i xi sz X2 hn hi hxi hc hs hX2 h92
      have hv4 := sh_in hc.1
      have hj := vp_lt hv4
      refine a_iload C0 4 dX6_sheet_69 rfl ?_
      refine a_bipush C0 40 dX6_sheet_71 rfl ?_
      refine a_icmp_ge C0 95 dX6_sheet_73 rfl (fun h73 => ?_) (fun h73 => ?_)
      · refine a_iconst C0 1 dX6_sheet_95 rfl ?_
        refine a_iret C0 hr dX6_sheet_96 ?_
        have e : i = 40 := Nat.le_antisymm hi (i_ge (T := 40) hxi rfl (by omega) (by omega) h73)
        subst e
        have e7 : ∀ q, X2 7 q = if q = ix v then so else X 7 q := fun q => by
          rw [hX2 7 (by decide)]
          rfl
        have e8 : ∀ q, X2 8 q = if q = ix v then sz else X 8 q := fun q => by
          rw [hX2 8 (by decide)]
          rfl
        have hR : ∀ u : WM, u 0 0 = so → (so = -1 ∨ (0 ≤ so ∧ so ≤ 3)) → (∃ cn, cn ≤ 40 ∧ u 0 1 = nI cn ∧ sz = nI cn ∧ ∀ k, k < cn → 0 = u 1 k) → RSh (setS W (ix v) u) X2 := fun u u0 us uc => by
          refine rs.set (fun q _ hne => (e7 q).trans (if_neg hne)) (fun q _ hne => (e8 q).trans (if_neg hne)) (fun q _ hne k hk => (h92 _).trans (if_neg (by omega))) ?_
          rw [u0]
          obtain ⟨cn, c1, c2, c3, c4⟩ := uc
          exact ⟨(e7 _).trans (if_pos rfl), us, cn, c1, c2, ((e8 _).trans (if_pos rfl)).trans c3, fun k hk => ((h92 _).trans (if_pos (by omega))).trans (c4 k hk)⟩
        refine ⟨_, rfl, ?_, X2, rfl, fun c h7 h8 h9 => ?_, ?_⟩
        · unfold sheR
          rw [if_pos hc]
          rcases hs with ⟨s1, _⟩ | ⟨s1, s2, _⟩
          · rw [if_pos s1]
          · rw [if_neg s1, if_neg s2.1, if_neg s2.2]
        · rw [hX2 c h9]
          funext q
          exact (if_neg h8).trans (if_neg h7)
        · unfold sheS
          rw [if_pos hc]
          rcases hs with ⟨s1, s3⟩ | ⟨s1, s2, s3⟩
          · rw [if_pos s1]
            exact hR _ s1.symm (Or.inl s1) ⟨0, by decide, rfl, s3, fun k hk => absurd hk (Nat.not_lt_zero k)⟩
          · rw [if_neg s1, if_neg s2.1, if_neg s2.2]
            obtain ⟨q, hq, e⟩ := nI_of2 (M := 40) (n := 40) rfl s2.2 (Int32.not_lt.mp s2.1)
            refine hR _ rfl (Or.inr ⟨Int32.not_lt.mp fun z => s1 ((lt0 hc.2.1).mp z), hc.2.2⟩) ⟨q, by omega, e, s3.trans e, fun k hk => ?_⟩
            show 0 = if k < ix y then 0 else _
            rw [e, if_pos (by rw [show ix (nI q) = q from nI_clamp (by omega)]; exact hk)]
      · have hlt : i < 40 := i_lt (T := 40) hxi rfl (by omega) (by omega) h73
        have pp := np_ (IX.v hv4) (IX.eqn hxi hlt (by decide))
        refine a_aload_n C0 0 dX6_sheet_76 rfl rfl ?_
        refine g_X6_34 C0 (lt_b rfl) rfl rfl dX6_sheet_77 ?_
        refine a_bipush C0 40 dX6_sheet_80 rfl ?_
        refine a_iload_n C0 1 dX6_sheet_82 rfl rfl ?_
        refine a_imul C0 dX6_sheet_83 ?_
        refine a_iload C0 4 dX6_sheet_84 rfl ?_
        refine a_iadd C0 dX6_sheet_86 ?_
        refine a_iconst C0 0 dX6_sheet_87 rfl ?_
        refine a_iast C0 _ (lt_b rfl) (fun _ => rfl) pp.1 pp.2 dX6_sheet_88 ?_
        refine a_iinc (ls2 := [(4, _), (0, _), (1, _), (2, _), (3, _)]) C0 4 1 dX6_sheet_89 rfl rfl (lt_b rfl) rfl ?_
        refine a_goto C0 69 dX6_sheet_92 rfl ?_
        refine AW.sub (ls2 := [(0, _), (1, _), (2, _), (3, _), (4, _)]) [1, 2, 3, 4, 0] rfl ?_
        rw [mkM_X (by decide)]
        exact ih (i + 1) _ _ _ (by omega) hlt (by rw [hxi, nI_1]) hc hs (fun c hcc => by
          rw [← hX2 c hcc]
          funext q
          exact if_neg hcc) (fun q => by
          show (if q = 40 * ix v + i then 0 else X2 9 q) = _
          rw [h92 q]
          by_cases e : q = 40 * ix v + i
          · rw [if_pos e, if_pos (by omega)]
          · rw [if_neg e]
            by_cases e2 : 40 * ix v ≤ q ∧ q < 40 * ix v + i
            · rw [if_pos e2, if_pos (by omega)]
            · rw [if_neg e2, if_neg (by omega)])
  refine a_iload_n C0 1 dX6_sheet_0 rfl rfl ?_
  refine a_callS _ 1 C0 EM.z (c_X6_isSheet l G) u_c_X6_isSheet u_m_X6_258 u_st_X6_isSheet u_in_X6 hy_X6_isSheet.2 (hRk rfl) rfl rfl (le_b rfl) dX6_sheet_1 (k_ro EM.z ?_)
  refine a_if_eqb C0 31 dX6_sheet_4 rfl (fun h4 => ?_) (fun h4 => ?_)
  · refine a_iconst C0 (-1) dX6_sheet_31 rfl ?_
    refine a_iret C0 hr dX6_sheet_32 ?_
    first
      | (have hc : (isSh v ∧ (-1 ≤ so ∧ so ≤ 3)) := ⟨h4, h18⟩
         have s1 : ¬ so = -1 := fun z => h22 ((lt0 h18.1).mpr z)
         have s2 : 40 < y := Int32.not_le.mp h28
         exact ⟨_, rfl, by unfold sheR; rw [if_pos hc, if_neg s1, if_pos s2], _, rfl, fun _ _ _ _ => rfl, by unfold sheS; rw [if_pos hc, if_neg s1, if_pos s2]; exact rs⟩)
      | (have hc : ¬ (isSh v ∧ (-1 ≤ so ∧ so ≤ 3)) := fun q => by
           first
             | exact h4 q.1
             | exact h18 q.2
         exact ⟨_, rfl, by unfold sheR; rw [if_neg hc], _, rfl, fun _ _ _ _ => rfl, by unfold sheS; rw [if_neg hc]; exact rs⟩)
  · refine a_iload_n C0 2 dX6_sheet_7 rfl rfl ?_
    refine a_i2l C0 dX6_sheet_8 ?_
    refine a_ldc2 C0 dX6_sheet_9 u_k_X6_264 ?_
    refine a_ldc2 C0 dX6_sheet_12 u_k_X6_154 ?_
    refine a_callS _ 3 C0 EM.z (c_X6_isIn l G (w2 := (-1)) (w3 := 3) rfl rfl rfl) u_c_X6_isIn u_m_X6_54 u_st_X6_isIn u_in_X6 hy_X6_isIn.2 (hRk rfl) rfl rfl (le_b rfl) dX6_sheet_15 (k_ro EM.z ?_)
    refine a_if_eqb C0 31 dX6_sheet_18 rfl (fun h18 => ?_) (fun h18 => ?_)
    · refine a_iconst C0 (-1) dX6_sheet_31 rfl ?_
      refine a_iret C0 hr dX6_sheet_32 ?_
      first
        | (have hc : (isSh v ∧ (-1 ≤ so ∧ so ≤ 3)) := ⟨h4, h18⟩
           have s1 : ¬ so = -1 := fun z => h22 ((lt0 h18.1).mpr z)
           have s2 : 40 < y := Int32.not_le.mp h28
           exact ⟨_, rfl, by unfold sheR; rw [if_pos hc, if_neg s1, if_pos s2], _, rfl, fun _ _ _ _ => rfl, by unfold sheS; rw [if_pos hc, if_neg s1, if_pos s2]; exact rs⟩)
        | (have hc : ¬ (isSh v ∧ (-1 ≤ so ∧ so ≤ 3)) := fun q => by
             first
               | exact h4 q.1
               | exact h18 q.2
           exact ⟨_, rfl, by unfold sheR; rw [if_neg hc], _, rfl, fun _ _ _ _ => rfl, by unfold sheS; rw [if_neg hc]; exact rs⟩)
    · refine a_iload_n C0 2 dX6_sheet_21 rfl rfl ?_
      refine a_if_lt C0 33 dX6_sheet_22 rfl (fun h22 => ?_) (fun h22 => ?_)
      · refine a_iload_n C0 2 dX6_sheet_33 rfl rfl ?_
        refine a_if_lt C0 44 dX6_sheet_34 rfl (fun h34 => ?_) (fun h34 => ?_)
        · have hv4 := sh_in h4
          refine a_aload_n C0 0 dX6_sheet_44 rfl rfl ?_
          refine g_X6_28 C0 (lt_b rfl) rfl rfl dX6_sheet_45 ?_
          refine a_iload_n C0 1 dX6_sheet_48 rfl rfl ?_
          refine a_iload_n C0 2 dX6_sheet_49 rfl rfl ?_
          refine a_iast C0 _ (lt_b rfl) (fun _ => rfl) hv4 rfl dX6_sheet_50 ?_
          refine a_aload_n C0 0 dX6_sheet_51 rfl rfl ?_
          refine g_X6_31 C0 (lt_b rfl) rfl rfl dX6_sheet_52 ?_
          refine a_iload_n C0 1 dX6_sheet_55 rfl rfl ?_
          refine a_iload_n C0 2 dX6_sheet_56 rfl rfl ?_
          refine a_if_ge C0 64 dX6_sheet_57 rfl (fun h57 => ?_) (fun h57 => ?_)
          · refine a_iload_n C0 3 dX6_sheet_64 rfl rfl ?_
            refine a_iast C0 _ (lt_b rfl) (fun _ => rfl) hv4 rfl dX6_sheet_65 ?_
            refine a_iconst C0 0 dX6_sheet_66 rfl ?_
            refine a_istore (ls2 := [(4, _), (0, _), (1, _), (2, _), (3, _)]) C0 dX6_sheet_67 (lt_b rfl) rfl ?_
            refine AW.sub (ls2 := [(0, _), (1, _), (2, _), (3, _), (4, _)]) [1, 2, 3, 4, 0] rfl ?_
            rw [mkM_X (by decide), mkM_X (by decide)]
            have hc : (isSh v ∧ (-1 ≤ so ∧ so ≤ 3)) := ⟨h4, h18⟩
            refine lp 41 0 _ _ _ (by omega) (Nat.zero_le _) rfl hc ?_ (fun _ _ => rfl) (fun q => (if_neg (by omega)).symm)
            first
              | exact Or.inl ⟨(lt0 h18.1).mp h22, rfl⟩
              | exact Or.inl ⟨(lt0 h18.1).mp (Int32.not_le.mp h57), rfl⟩
              | exact Or.inr ⟨fun z => h22 ((lt0 h18.1).mpr z), ⟨Int32.not_lt.mpr h28, Int32.not_lt.mpr h38⟩, rfl⟩
              | exact absurd h57 (Int32.not_le.mpr h22)
              | exact absurd h34 h22
          · refine a_iconst C0 0 dX6_sheet_60 rfl ?_
            refine a_goto C0 65 dX6_sheet_61 rfl ?_
            refine a_iast C0 _ (lt_b rfl) (fun _ => rfl) hv4 rfl dX6_sheet_65 ?_
            refine a_iconst C0 0 dX6_sheet_66 rfl ?_
            refine a_istore (ls2 := [(4, _), (0, _), (1, _), (2, _), (3, _)]) C0 dX6_sheet_67 (lt_b rfl) rfl ?_
            refine AW.sub (ls2 := [(0, _), (1, _), (2, _), (3, _), (4, _)]) [1, 2, 3, 4, 0] rfl ?_
            rw [mkM_X (by decide), mkM_X (by decide)]
            have hc : (isSh v ∧ (-1 ≤ so ∧ so ≤ 3)) := ⟨h4, h18⟩
            refine lp 41 0 _ _ _ (by omega) (Nat.zero_le _) rfl hc ?_ (fun _ _ => rfl) (fun q => (if_neg (by omega)).symm)
            first
              | exact Or.inl ⟨(lt0 h18.1).mp h22, rfl⟩
              | exact Or.inl ⟨(lt0 h18.1).mp (Int32.not_le.mp h57), rfl⟩
              | exact Or.inr ⟨fun z => h22 ((lt0 h18.1).mpr z), ⟨Int32.not_lt.mpr h28, Int32.not_lt.mpr h38⟩, rfl⟩
              | exact absurd h57 (Int32.not_le.mpr h22)
              | exact absurd h34 h22
        · refine a_iload_n C0 3 dX6_sheet_37 rfl rfl ?_
          refine a_if_ge C0 44 dX6_sheet_38 rfl (fun h38 => ?_) (fun h38 => ?_)
          · have hv4 := sh_in h4
            refine a_aload_n C0 0 dX6_sheet_44 rfl rfl ?_
            refine g_X6_28 C0 (lt_b rfl) rfl rfl dX6_sheet_45 ?_
            refine a_iload_n C0 1 dX6_sheet_48 rfl rfl ?_
            refine a_iload_n C0 2 dX6_sheet_49 rfl rfl ?_
            refine a_iast C0 _ (lt_b rfl) (fun _ => rfl) hv4 rfl dX6_sheet_50 ?_
            refine a_aload_n C0 0 dX6_sheet_51 rfl rfl ?_
            refine g_X6_31 C0 (lt_b rfl) rfl rfl dX6_sheet_52 ?_
            refine a_iload_n C0 1 dX6_sheet_55 rfl rfl ?_
            refine a_iload_n C0 2 dX6_sheet_56 rfl rfl ?_
            refine a_if_ge C0 64 dX6_sheet_57 rfl (fun h57 => ?_) (fun h57 => ?_)
            · refine a_iload_n C0 3 dX6_sheet_64 rfl rfl ?_
              refine a_iast C0 _ (lt_b rfl) (fun _ => rfl) hv4 rfl dX6_sheet_65 ?_
              refine a_iconst C0 0 dX6_sheet_66 rfl ?_
              refine a_istore (ls2 := [(4, _), (0, _), (1, _), (2, _), (3, _)]) C0 dX6_sheet_67 (lt_b rfl) rfl ?_
              refine AW.sub (ls2 := [(0, _), (1, _), (2, _), (3, _), (4, _)]) [1, 2, 3, 4, 0] rfl ?_
              rw [mkM_X (by decide), mkM_X (by decide)]
              have hc : (isSh v ∧ (-1 ≤ so ∧ so ≤ 3)) := ⟨h4, h18⟩
              refine lp 41 0 _ _ _ (by omega) (Nat.zero_le _) rfl hc ?_ (fun _ _ => rfl) (fun q => (if_neg (by omega)).symm)
              first
                | exact Or.inl ⟨(lt0 h18.1).mp h22, rfl⟩
                | exact Or.inl ⟨(lt0 h18.1).mp (Int32.not_le.mp h57), rfl⟩
                | exact Or.inr ⟨fun z => h22 ((lt0 h18.1).mpr z), ⟨Int32.not_lt.mpr h28, Int32.not_lt.mpr h38⟩, rfl⟩
                | exact absurd h57 (Int32.not_le.mpr h22)
                | exact absurd h34 h22
            · refine a_iconst C0 0 dX6_sheet_60 rfl ?_
              refine a_goto C0 65 dX6_sheet_61 rfl ?_
              refine a_iast C0 _ (lt_b rfl) (fun _ => rfl) hv4 rfl dX6_sheet_65 ?_
              refine a_iconst C0 0 dX6_sheet_66 rfl ?_
              refine a_istore (ls2 := [(4, _), (0, _), (1, _), (2, _), (3, _)]) C0 dX6_sheet_67 (lt_b rfl) rfl ?_
              refine AW.sub (ls2 := [(0, _), (1, _), (2, _), (3, _), (4, _)]) [1, 2, 3, 4, 0] rfl ?_
              rw [mkM_X (by decide), mkM_X (by decide)]
              have hc : (isSh v ∧ (-1 ≤ so ∧ so ≤ 3)) := ⟨h4, h18⟩
              refine lp 41 0 _ _ _ (by omega) (Nat.zero_le _) rfl hc ?_ (fun _ _ => rfl) (fun q => (if_neg (by omega)).symm)
              first
                | exact Or.inl ⟨(lt0 h18.1).mp h22, rfl⟩
                | exact Or.inl ⟨(lt0 h18.1).mp (Int32.not_le.mp h57), rfl⟩
                | exact Or.inr ⟨fun z => h22 ((lt0 h18.1).mpr z), ⟨Int32.not_lt.mpr h28, Int32.not_lt.mpr h38⟩, rfl⟩
                | exact absurd h57 (Int32.not_le.mpr h22)
                | exact absurd h34 h22
          · refine a_bipush C0 (-14) dX6_sheet_41 rfl ?_
            refine a_iret C0 hr dX6_sheet_43 ?_
            first
              | exact absurd h22 h34
              | (have hc : (isSh v ∧ (-1 ≤ so ∧ so ≤ 3)) := ⟨h4, h18⟩
                 have s1 : ¬ so = -1 := fun z => h22 ((lt0 h18.1).mpr z)
                 have s2 : ¬ 40 < y := Int32.not_lt.mpr h28
                 have s3 : y < 0 := Int32.not_le.mp h38
                 exact ⟨_, rfl, by unfold sheR; rw [if_pos hc, if_neg s1, if_neg s2, if_pos s3], _, rfl, fun _ _ _ _ => rfl, by unfold sheS; rw [if_pos hc, if_neg s1, if_neg s2, if_pos s3]; exact rs⟩)
      · refine a_iload_n C0 3 dX6_sheet_25 rfl rfl ?_
        refine a_bipush C0 40 dX6_sheet_26 rfl ?_
        refine a_icmp_le C0 33 dX6_sheet_28 rfl (fun h28 => ?_) (fun h28 => ?_)
        · refine a_iload_n C0 2 dX6_sheet_33 rfl rfl ?_
          refine a_if_lt C0 44 dX6_sheet_34 rfl (fun h34 => ?_) (fun h34 => ?_)
          · have hv4 := sh_in h4
            refine a_aload_n C0 0 dX6_sheet_44 rfl rfl ?_
            refine g_X6_28 C0 (lt_b rfl) rfl rfl dX6_sheet_45 ?_
            refine a_iload_n C0 1 dX6_sheet_48 rfl rfl ?_
            refine a_iload_n C0 2 dX6_sheet_49 rfl rfl ?_
            refine a_iast C0 _ (lt_b rfl) (fun _ => rfl) hv4 rfl dX6_sheet_50 ?_
            refine a_aload_n C0 0 dX6_sheet_51 rfl rfl ?_
            refine g_X6_31 C0 (lt_b rfl) rfl rfl dX6_sheet_52 ?_
            refine a_iload_n C0 1 dX6_sheet_55 rfl rfl ?_
            refine a_iload_n C0 2 dX6_sheet_56 rfl rfl ?_
            refine a_if_ge C0 64 dX6_sheet_57 rfl (fun h57 => ?_) (fun h57 => ?_)
            · refine a_iload_n C0 3 dX6_sheet_64 rfl rfl ?_
              refine a_iast C0 _ (lt_b rfl) (fun _ => rfl) hv4 rfl dX6_sheet_65 ?_
              refine a_iconst C0 0 dX6_sheet_66 rfl ?_
              refine a_istore (ls2 := [(4, _), (0, _), (1, _), (2, _), (3, _)]) C0 dX6_sheet_67 (lt_b rfl) rfl ?_
              refine AW.sub (ls2 := [(0, _), (1, _), (2, _), (3, _), (4, _)]) [1, 2, 3, 4, 0] rfl ?_
              rw [mkM_X (by decide), mkM_X (by decide)]
              have hc : (isSh v ∧ (-1 ≤ so ∧ so ≤ 3)) := ⟨h4, h18⟩
              refine lp 41 0 _ _ _ (by omega) (Nat.zero_le _) rfl hc ?_ (fun _ _ => rfl) (fun q => (if_neg (by omega)).symm)
              first
                | exact Or.inl ⟨(lt0 h18.1).mp h22, rfl⟩
                | exact Or.inl ⟨(lt0 h18.1).mp (Int32.not_le.mp h57), rfl⟩
                | exact Or.inr ⟨fun z => h22 ((lt0 h18.1).mpr z), ⟨Int32.not_lt.mpr h28, Int32.not_lt.mpr h38⟩, rfl⟩
                | exact absurd h57 (Int32.not_le.mpr h22)
                | exact absurd h34 h22
            · refine a_iconst C0 0 dX6_sheet_60 rfl ?_
              refine a_goto C0 65 dX6_sheet_61 rfl ?_
              refine a_iast C0 _ (lt_b rfl) (fun _ => rfl) hv4 rfl dX6_sheet_65 ?_
              refine a_iconst C0 0 dX6_sheet_66 rfl ?_
              refine a_istore (ls2 := [(4, _), (0, _), (1, _), (2, _), (3, _)]) C0 dX6_sheet_67 (lt_b rfl) rfl ?_
              refine AW.sub (ls2 := [(0, _), (1, _), (2, _), (3, _), (4, _)]) [1, 2, 3, 4, 0] rfl ?_
              rw [mkM_X (by decide), mkM_X (by decide)]
              have hc : (isSh v ∧ (-1 ≤ so ∧ so ≤ 3)) := ⟨h4, h18⟩
              refine lp 41 0 _ _ _ (by omega) (Nat.zero_le _) rfl hc ?_ (fun _ _ => rfl) (fun q => (if_neg (by omega)).symm)
              first
                | exact Or.inl ⟨(lt0 h18.1).mp h22, rfl⟩
                | exact Or.inl ⟨(lt0 h18.1).mp (Int32.not_le.mp h57), rfl⟩
                | exact Or.inr ⟨fun z => h22 ((lt0 h18.1).mpr z), ⟨Int32.not_lt.mpr h28, Int32.not_lt.mpr h38⟩, rfl⟩
                | exact absurd h57 (Int32.not_le.mpr h22)
                | exact absurd h34 h22
          · refine a_iload_n C0 3 dX6_sheet_37 rfl rfl ?_
            refine a_if_ge C0 44 dX6_sheet_38 rfl (fun h38 => ?_) (fun h38 => ?_)
            · have hv4 := sh_in h4
              refine a_aload_n C0 0 dX6_sheet_44 rfl rfl ?_
              refine g_X6_28 C0 (lt_b rfl) rfl rfl dX6_sheet_45 ?_
              refine a_iload_n C0 1 dX6_sheet_48 rfl rfl ?_
              refine a_iload_n C0 2 dX6_sheet_49 rfl rfl ?_
              refine a_iast C0 _ (lt_b rfl) (fun _ => rfl) hv4 rfl dX6_sheet_50 ?_
              refine a_aload_n C0 0 dX6_sheet_51 rfl rfl ?_
              refine g_X6_31 C0 (lt_b rfl) rfl rfl dX6_sheet_52 ?_
              refine a_iload_n C0 1 dX6_sheet_55 rfl rfl ?_
              refine a_iload_n C0 2 dX6_sheet_56 rfl rfl ?_
              refine a_if_ge C0 64 dX6_sheet_57 rfl (fun h57 => ?_) (fun h57 => ?_)
              · refine a_iload_n C0 3 dX6_sheet_64 rfl rfl ?_
                refine a_iast C0 _ (lt_b rfl) (fun _ => rfl) hv4 rfl dX6_sheet_65 ?_
                refine a_iconst C0 0 dX6_sheet_66 rfl ?_
                refine a_istore (ls2 := [(4, _), (0, _), (1, _), (2, _), (3, _)]) C0 dX6_sheet_67 (lt_b rfl) rfl ?_
                refine AW.sub (ls2 := [(0, _), (1, _), (2, _), (3, _), (4, _)]) [1, 2, 3, 4, 0] rfl ?_
                rw [mkM_X (by decide), mkM_X (by decide)]
                have hc : (isSh v ∧ (-1 ≤ so ∧ so ≤ 3)) := ⟨h4, h18⟩
                refine lp 41 0 _ _ _ (by omega) (Nat.zero_le _) rfl hc ?_ (fun _ _ => rfl) (fun q => (if_neg (by omega)).symm)
                first
                  | exact Or.inl ⟨(lt0 h18.1).mp h22, rfl⟩
                  | exact Or.inl ⟨(lt0 h18.1).mp (Int32.not_le.mp h57), rfl⟩
                  | exact Or.inr ⟨fun z => h22 ((lt0 h18.1).mpr z), ⟨Int32.not_lt.mpr h28, Int32.not_lt.mpr h38⟩, rfl⟩
                  | exact absurd h57 (Int32.not_le.mpr h22)
                  | exact absurd h34 h22
              · refine a_iconst C0 0 dX6_sheet_60 rfl ?_
                refine a_goto C0 65 dX6_sheet_61 rfl ?_
                refine a_iast C0 _ (lt_b rfl) (fun _ => rfl) hv4 rfl dX6_sheet_65 ?_
                refine a_iconst C0 0 dX6_sheet_66 rfl ?_
                refine a_istore (ls2 := [(4, _), (0, _), (1, _), (2, _), (3, _)]) C0 dX6_sheet_67 (lt_b rfl) rfl ?_
                refine AW.sub (ls2 := [(0, _), (1, _), (2, _), (3, _), (4, _)]) [1, 2, 3, 4, 0] rfl ?_
                rw [mkM_X (by decide), mkM_X (by decide)]
                have hc : (isSh v ∧ (-1 ≤ so ∧ so ≤ 3)) := ⟨h4, h18⟩
                refine lp 41 0 _ _ _ (by omega) (Nat.zero_le _) rfl hc ?_ (fun _ _ => rfl) (fun q => (if_neg (by omega)).symm)
                first
                  | exact Or.inl ⟨(lt0 h18.1).mp h22, rfl⟩
                  | exact Or.inl ⟨(lt0 h18.1).mp (Int32.not_le.mp h57), rfl⟩
                  | exact Or.inr ⟨fun z => h22 ((lt0 h18.1).mpr z), ⟨Int32.not_lt.mpr h28, Int32.not_lt.mpr h38⟩, rfl⟩
                  | exact absurd h57 (Int32.not_le.mpr h22)
                  | exact absurd h34 h22
            · refine a_bipush C0 (-14) dX6_sheet_41 rfl ?_
              refine a_iret C0 hr dX6_sheet_43 ?_
              first
                | exact absurd h22 h34
                | (have hc : (isSh v ∧ (-1 ≤ so ∧ so ≤ 3)) := ⟨h4, h18⟩
                   have s1 : ¬ so = -1 := fun z => h22 ((lt0 h18.1).mpr z)
                   have s2 : ¬ 40 < y := Int32.not_lt.mpr h28
                   have s3 : y < 0 := Int32.not_le.mp h38
                   exact ⟨_, rfl, by unfold sheR; rw [if_pos hc, if_neg s1, if_neg s2, if_pos s3], _, rfl, fun _ _ _ _ => rfl, by unfold sheS; rw [if_pos hc, if_neg s1, if_neg s2, if_pos s3]; exact rs⟩)
        · refine a_iconst C0 (-1) dX6_sheet_31 rfl ?_
          refine a_iret C0 hr dX6_sheet_32 ?_
          first
            | (have hc : (isSh v ∧ (-1 ≤ so ∧ so ≤ 3)) := ⟨h4, h18⟩
               have s1 : ¬ so = -1 := fun z => h22 ((lt0 h18.1).mpr z)
               have s2 : 40 < y := Int32.not_le.mp h28
               exact ⟨_, rfl, by unfold sheR; rw [if_pos hc, if_neg s1, if_pos s2], _, rfl, fun _ _ _ _ => rfl, by unfold sheS; rw [if_pos hc, if_neg s1, if_pos s2]; exact rs⟩)
            | (have hc : ¬ (isSh v ∧ (-1 ≤ so ∧ so ≤ 3)) := fun q => by
                 first
                   | exact h4 q.1
                   | exact h18 q.2
               exact ⟨_, rfl, by unfold sheR; rw [if_neg hc], _, rfl, fun _ _ _ _ => rfl, by unfold sheS; rw [if_neg hc]; exact rs⟩)
set_option maxRecDepth 100000 in
set_option maxHeartbeats 4000000 in
theorem c_X6_lacks (l : Launch) (G : GE) {ad : Nat → Nat} {M : WM} {O S : RW} {X : WM} {v so : Int32} {W : WM} (rs : RSh W X) (hv : vp_in v 4) (hM : M = mkM O S X)  : CT l G yX6_lacks cX6_lacks 3 (some .int) 0 [.ref (ad 0), .int v, .int so] 14 ad (shM G ad) M (PI (fun r u => r = (if W (2 * ix v) 0 = -1 then -11 else if W (2 * ix v) 0 = so then 0 else -13) ∧ u = mkM O S X)) := by
  refine CT.of (own := RX6) rfl rfl (le_b rfl) fun p e s m args below meth c A C0 hr => ?_
  refine AW.lo (ls2 := [(0, _), (1, _), (2, _)]) rfl ?_
  subst hM
  refine a_aload_n C0 0 dX6_lacks_0 rfl rfl ?_
  refine g_X6_28 C0 (lt_b rfl) rfl rfl dX6_lacks_1 ?_
  refine a_iload_n C0 1 dX6_lacks_4 rfl rfl ?_
  refine a_iald C0 _ (lt_b rfl) rfl hv rfl dX6_lacks_5 ?_
  refine a_if_ge C0 14 dX6_lacks_6 rfl (fun h6 => ?_) (fun h6 => ?_)
  · refine a_aload_n C0 0 dX6_lacks_14 rfl rfl ?_
    refine g_X6_28 C0 (lt_b rfl) rfl rfl dX6_lacks_15 ?_
    refine a_iload_n C0 1 dX6_lacks_18 rfl rfl ?_
    refine a_iald C0 _ (lt_b rfl) rfl hv rfl dX6_lacks_19 ?_
    refine a_iload_n C0 2 dX6_lacks_20 rfl rfl ?_
    refine a_icmp_eq C0 29 dX6_lacks_21 rfl (fun h21 => ?_) (fun h21 => ?_)
    · refine a_iconst C0 0 dX6_lacks_29 rfl ?_
      refine a_iret C0 hr dX6_lacks_30 ?_
      refine rt_ ?_
      have e7 : mkM O S X 7 (ix v) = W (2 * ix v) 0 := (rs _ (vp_lt hv)).1
      have hm := rs.mis (vp_lt hv)
      first
        | exact (if_pos (hm.mp (Int32.not_le.mp h6))).symm
        | (rw [if_neg fun q => absurd (hm.mpr q) (Int32.not_lt.mpr h6)]
           rw [e7] at h21
           first
             | rw [if_pos h21]
             | rw [if_neg h21])
    · refine a_bipush C0 (-13) dX6_lacks_24 rfl ?_
      refine a_goto C0 30 dX6_lacks_26 rfl ?_
      refine a_iret C0 hr dX6_lacks_30 ?_
      refine rt_ ?_
      have e7 : mkM O S X 7 (ix v) = W (2 * ix v) 0 := (rs _ (vp_lt hv)).1
      have hm := rs.mis (vp_lt hv)
      first
        | exact (if_pos (hm.mp (Int32.not_le.mp h6))).symm
        | (rw [if_neg fun q => absurd (hm.mpr q) (Int32.not_lt.mpr h6)]
           rw [e7] at h21
           first
             | rw [if_pos h21]
             | rw [if_neg h21])
  · refine a_bipush C0 (-11) dX6_lacks_9 rfl ?_
    refine a_goto C0 30 dX6_lacks_11 rfl ?_
    refine a_iret C0 hr dX6_lacks_30 ?_
    refine rt_ ?_
    have e7 : mkM O S X 7 (ix v) = W (2 * ix v) 0 := (rs _ (vp_lt hv)).1
    have hm := rs.mis (vp_lt hv)
    first
      | exact (if_pos (hm.mp (Int32.not_le.mp h6))).symm
      | (rw [if_neg fun q => absurd (hm.mpr q) (Int32.not_lt.mpr h6)]
         rw [e7] at h21
         first
           | rw [if_pos h21]
           | rw [if_neg h21])
set_option maxRecDepth 100000 in
set_option maxHeartbeats 4000000 in
theorem c_X6_item (l : Launch) (G : GE) {ad : Nat → Nat} {M : WM} {O S : RW} {X : WM} {v so i : Int32} {W : WM} (rs : RSh W X) {cn : Nat} (hcn : ix v < 4 → W (2 * ix v) 1 = nI cn) (hcn40 : cn ≤ 40) (hM : M = mkM O S X)  : CT l G yX6_item cX6_item 4 (some .int) 2 [.ref (ad 0), .int v, .int so, .int i] 14 ad (shM G ad) M (PI (fun r u => r = iteR W v so i ∧ u = mkM O S X)) := by
  refine CT.of (own := RX6) rfl rfl (le_b rfl) fun p e s m args below meth c A C0 hr => ?_
  refine AW.lo (ls2 := [(0, _), (1, _), (2, _), (3, _)]) rfl ?_
  subst hM
  refine a_iload_n C0 1 dX6_item_0 rfl rfl ?_
  refine a_callS _ 1 C0 EM.z (c_X6_isSheet l G) u_c_X6_isSheet u_m_X6_258 u_st_X6_isSheet u_in_X6 hy_X6_isSheet.2 (hRk rfl) rfl rfl (le_b rfl) dX6_item_1 (k_ro EM.z ?_)
  refine a_if_eqb C0 19 dX6_item_4 rfl (fun h4 => ?_) (fun h4 => ?_)
  · refine a_iconst C0 (-1) dX6_item_19 rfl ?_
    refine a_iret C0 hr dX6_item_20 ?_
    have hc : ¬ (isSh v ∧ (0 ≤ so ∧ so ≤ 3)) := fun q => by
      first
        | exact h4 q.1
        | exact h16 q.2
    exact rt_ (by unfold iteR; rw [if_neg hc])
  · refine a_iload_n C0 2 dX6_item_7 rfl rfl ?_
    refine a_i2l C0 dX6_item_8 ?_
    refine a_lconst C0 0 dX6_item_9 rfl ?_
    refine a_ldc2 C0 dX6_item_10 u_k_X6_154 ?_
    refine a_callS _ 3 C0 EM.z (c_X6_isIn l G (w2 := 0) (w3 := 3) rfl rfl rfl) u_c_X6_isIn u_m_X6_54 u_st_X6_isIn u_in_X6 hy_X6_isIn.2 (hRk rfl) rfl rfl (le_b rfl) dX6_item_13 (k_ro EM.z ?_)
    refine a_if_neb C0 21 dX6_item_16 rfl (fun h16 => ?_) (fun h16 => ?_)
    · have hc : (isSh v ∧ (0 ≤ so ∧ so ≤ 3)) := ⟨h4, h16⟩
      have hv4 := sh_in h4
      have hrs := rs.cn (vp_lt hv4) (hcn (vp_lt hv4)) hcn40
      have e8 : mkM O S X 8 (ix v) = W (2 * ix v) 1 := hrs.1.trans (hcn (vp_lt hv4)).symm
      refine a_aload_n C0 0 dX6_item_21 rfl rfl ?_
      refine a_iload_n C0 1 dX6_item_22 rfl rfl ?_
      refine a_iload_n C0 2 dX6_item_23 rfl rfl ?_
      refine a_callV _ 2 C0 EM.refl (c_X6_lacks l G rs hv4 rfl) u_c_X6_lacks u_m_X6_281 u_im_X6_lacks u_se_X6_lacks u_in_X6 hy_X6_lacks rfl (lt_b rfl) rfl (hRk rfl) rfl rfl (le_b rfl) dX6_item_24 (k_ro EM.refl ?_)
      refine a_if_eq C0 37 dX6_item_27 rfl (fun h27 => ?_) (fun h27 => ?_)
      · have hmis : ¬ W (2 * ix v) 0 = -1 := fun q => by
          rw [if_pos q] at h27
          exact absurd h27 (by decide)
        have hso : W (2 * ix v) 0 = so := by
          by_cases q : W (2 * ix v) 0 = so
          · exact q
          · rw [if_neg hmis, if_neg q] at h27
            exact absurd h27 (by decide)
        refine a_iload_n C0 3 dX6_item_37 rfl rfl ?_
        refine a_i2l C0 dX6_item_38 ?_
        refine a_lconst C0 0 dX6_item_39 rfl ?_
        refine a_aload_n C0 0 dX6_item_40 rfl rfl ?_
        refine g_X6_31 C0 (lt_b rfl) rfl rfl dX6_item_41 ?_
        refine a_iload_n C0 1 dX6_item_44 rfl rfl ?_
        refine a_iald C0 _ (lt_b rfl) rfl hv4 rfl dX6_item_45 ?_
        refine a_iconst C0 1 dX6_item_46 rfl ?_
        refine a_isub C0 dX6_item_47 ?_
        refine a_i2l C0 dX6_item_48 ?_
        refine a_callS _ 3 C0 EM.z (c_X6_isIn l G (w2 := 0) rfl rfl rfl) u_c_X6_isIn u_m_X6_54 u_st_X6_isIn u_in_X6 hy_X6_isIn.2 (hRk rfl) rfl rfl (le_b rfl) dX6_item_49 (k_ro EM.z ?_)
        refine a_if_eqb C0 69 dX6_item_52 rfl (fun h52 => ?_) (fun h52 => ?_)
        · refine a_bipush C0 (-12) dX6_item_69 rfl ?_
          refine a_iret C0 hr dX6_item_71 ?_
          first
            | exact rt_ (by unfold iteR; rw [if_pos hc, if_neg hmis, if_pos hso, if_pos hci]; exact hrs.2 _ (vp_lt hiv))
            | (have hci : ¬ (0 ≤ i ∧ i ≤ W (2 * ix v) 1 - 1) := by
                 rw [← e8]
                 exact h52
               exact rt_ (by unfold iteR; rw [if_pos hc, if_neg hmis, if_pos hso, if_neg hci]))
        · have hci : (0 ≤ i ∧ i ≤ W (2 * ix v) 1 - 1) := by
            rw [← e8]
            exact h52
          have hiv := (rng_N (hcn (vp_lt hv4)) (by omega)).mp hci
          have pp := np_ (IX.v hv4) (IX.v (vp_le hiv hcn40))
          refine a_aload_n C0 0 dX6_item_55 rfl rfl ?_
          refine g_X6_34 C0 (lt_b rfl) rfl rfl dX6_item_56 ?_
          refine a_bipush C0 40 dX6_item_59 rfl ?_
          refine a_iload_n C0 1 dX6_item_61 rfl rfl ?_
          refine a_imul C0 dX6_item_62 ?_
          refine a_iload_n C0 3 dX6_item_63 rfl rfl ?_
          refine a_iadd C0 dX6_item_64 ?_
          refine a_iald C0 _ (lt_b rfl) rfl pp.1 pp.2 dX6_item_65 ?_
          refine a_goto C0 71 dX6_item_66 rfl ?_
          refine a_iret C0 hr dX6_item_71 ?_
          first
            | exact rt_ (by unfold iteR; rw [if_pos hc, if_neg hmis, if_pos hso, if_pos hci]; exact hrs.2 _ (vp_lt hiv))
            | (have hci : ¬ (0 ≤ i ∧ i ≤ W (2 * ix v) 1 - 1) := by
                 rw [← e8]
                 exact h52
               exact rt_ (by unfold iteR; rw [if_pos hc, if_neg hmis, if_pos hso, if_neg hci]))
      · refine a_aload_n C0 0 dX6_item_30 rfl rfl ?_
        refine a_iload_n C0 1 dX6_item_31 rfl rfl ?_
        refine a_iload_n C0 2 dX6_item_32 rfl rfl ?_
        refine a_callV _ 2 C0 EM.refl (c_X6_lacks l G rs hv4 rfl) u_c_X6_lacks u_m_X6_281 u_im_X6_lacks u_se_X6_lacks u_in_X6 hy_X6_lacks rfl (lt_b rfl) rfl (hRk rfl) rfl rfl (le_b rfl) dX6_item_33 (k_ro EM.refl ?_)
        refine a_iret C0 hr dX6_item_36 ?_
        refine rt_ ?_
        unfold iteR
        rw [if_pos hc]
        by_cases q : W (2 * ix v) 0 = -1
        · rw [if_pos q, if_pos q]
        · rw [if_neg q, if_neg q]
          by_cases q2 : W (2 * ix v) 0 = so
          · rw [if_neg q, if_pos q2] at h27
            exact absurd rfl h27
          · rw [if_neg q2, if_neg q2]
    · refine a_iconst C0 (-1) dX6_item_19 rfl ?_
      refine a_iret C0 hr dX6_item_20 ?_
      have hc : ¬ (isSh v ∧ (0 ≤ so ∧ so ≤ 3)) := fun q => by
        first
          | exact h4 q.1
          | exact h16 q.2
      exact rt_ (by unfold iteR; rw [if_neg hc])
set_option maxRecDepth 100000 in
set_option maxHeartbeats 4000000 in
theorem c_X6_put (l : Launch) (G : GE) {ad : Nat → Nat} {M : WM} {O S : RW} {X : WM} {v i y : Int32} {W : WM} (rs : RSh W X) {cn : Nat} (hcn : ix v < 4 → W (2 * ix v) 1 = nI cn) (hcn40 : cn ≤ 40) (hM : M = mkM O S X)  : CT l G yX6_put cX6_put 4 (some .int) 2 [.ref (ad 0), .int v, .int i, .int y] 14 ad (shM G ad) M (PI (fun r u => r = putR W v i ∧ ∃ X', u = mkM O S X' ∧ EqX9 X X' ∧ RSh (putS W v i y) X')) := by
  refine CT.of (own := RX6) rfl rfl (le_b rfl) fun p e s m args below meth c A C0 hr => ?_
  refine AW.lo (ls2 := [(0, _), (1, _), (2, _), (3, _)]) rfl ?_
  subst hM
  refine a_iload_n C0 1 dX6_put_0 rfl rfl ?_
  refine a_callS _ 1 C0 EM.z (c_X6_isSheet l G) u_c_X6_isSheet u_m_X6_258 u_st_X6_isSheet u_in_X6 hy_X6_isSheet.2 (hRk rfl) rfl rfl (le_b rfl) dX6_put_1 (k_ro EM.z ?_)
  refine a_if_neb C0 9 dX6_put_4 rfl (fun h4 => ?_) (fun h4 => ?_)
  · have hv4 := sh_in h4
    have hj := vp_lt hv4
    have hrs := rs.cn hj (hcn hj) hcn40
    have e8 : mkM O S X 8 (ix v) = W (2 * ix v) 1 := hrs.1.trans (hcn hj).symm
    have e7 : mkM O S X 7 (ix v) = W (2 * ix v) 0 := (rs _ hj).1
    have hmi := rs.mis hj
    refine a_aload_n C0 0 dX6_put_9 rfl rfl ?_
    refine g_X6_28 C0 (lt_b rfl) rfl rfl dX6_put_10 ?_
    refine a_iload_n C0 1 dX6_put_13 rfl rfl ?_
    refine a_iald C0 _ (lt_b rfl) rfl hv4 rfl dX6_put_14 ?_
    refine a_if_ge C0 21 dX6_put_15 rfl (fun h15 => ?_) (fun h15 => ?_)
    · have hmis : ¬ W (2 * ix v) 0 = -1 := fun q => absurd (hmi.mpr q) (Int32.not_lt.mpr h15)
      refine a_iload_n C0 2 dX6_put_21 rfl rfl ?_
      refine a_i2l C0 dX6_put_22 ?_
      refine a_lconst C0 0 dX6_put_23 rfl ?_
      refine a_aload_n C0 0 dX6_put_24 rfl rfl ?_
      refine g_X6_31 C0 (lt_b rfl) rfl rfl dX6_put_25 ?_
      refine a_iload_n C0 1 dX6_put_28 rfl rfl ?_
      refine a_iald C0 _ (lt_b rfl) rfl hv4 rfl dX6_put_29 ?_
      refine a_iconst C0 1 dX6_put_30 rfl ?_
      refine a_isub C0 dX6_put_31 ?_
      refine a_i2l C0 dX6_put_32 ?_
      refine a_callS _ 3 C0 EM.z (c_X6_isIn l G (w2 := 0) rfl rfl rfl) u_c_X6_isIn u_m_X6_54 u_st_X6_isIn u_in_X6 hy_X6_isIn.2 (hRk rfl) rfl rfl (le_b rfl) dX6_put_33 (k_ro EM.z ?_)
      refine a_if_neb C0 42 dX6_put_36 rfl (fun h36 => ?_) (fun h36 => ?_)
      · have hci : (0 ≤ i ∧ i ≤ W (2 * ix v) 1 - 1) := by
          rw [← e8]
          exact h36
        have hiv := (rng_N (hcn hj) (by omega)).mp hci
        have pp := np_ (IX.v hv4) (IX.v (vp_le hiv hcn40))
        refine a_aload_n C0 0 dX6_put_42 rfl rfl ?_
        refine g_X6_34 C0 (lt_b rfl) rfl rfl dX6_put_43 ?_
        refine a_bipush C0 40 dX6_put_46 rfl ?_
        refine a_iload_n C0 1 dX6_put_48 rfl rfl ?_
        refine a_imul C0 dX6_put_49 ?_
        refine a_iload_n C0 2 dX6_put_50 rfl rfl ?_
        refine a_iadd C0 dX6_put_51 ?_
        refine a_aload_n C0 0 dX6_put_52 rfl rfl ?_
        refine g_X6_28 C0 (lt_b rfl) rfl rfl dX6_put_53 ?_
        refine a_iload_n C0 1 dX6_put_56 rfl rfl ?_
        refine a_iald C0 _ (lt_b rfl) rfl hv4 rfl dX6_put_57 ?_
        refine a_if_ne C0 66 dX6_put_58 rfl (fun h58 => ?_) (fun h58 => ?_)
        · refine a_aload_n C0 0 dX6_put_66 rfl rfl ?_
          refine g_X6_28 C0 (lt_b rfl) rfl rfl dX6_put_67 ?_
          refine a_iload_n C0 1 dX6_put_70 rfl rfl ?_
          refine a_iald C0 _ (lt_b rfl) rfl hv4 rfl dX6_put_71 ?_
          refine a_iconst C0 1 dX6_put_72 rfl ?_
          refine a_icmp_ne C0 81 dX6_put_73 rfl (fun h73 => ?_) (fun h73 => ?_)
          · refine a_iload_n C0 3 dX6_put_81 rfl rfl ?_
            refine a_iast C0 _ (lt_b rfl) (fun _ => rfl) pp.1 pp.2 dX6_put_82 ?_
            refine a_iconst C0 1 dX6_put_83 rfl ?_
            refine a_iret C0 hr dX6_put_84 ?_
            rw [mkM_X (by decide)]
            refine ⟨_, rfl, by unfold putR; rw [if_pos h4, if_neg hmis, if_pos hci], _, rfl, fun c _ _ h9 => ?_, ?_⟩
            · funext k
              exact if_neg h9
            · unfold putS
              rw [if_pos h4, if_neg hmis, if_pos hci]
              refine rs.set (fun q _ _ => rfl) (fun q _ _ => rfl) (fun q hq hne k hk => if_neg (show ¬ 40 * q + k = 40 * ix v + ix i by have := vp_lt hiv; omega)) ⟨(rs _ hj).1, (rs _ hj).2.1, cn, hcn40, hcn hj, hrs.1, fun k hk => ?_⟩
              show (if 40 * ix v + k = 40 * ix v + ix i then _ else X 9 (40 * ix v + k)) = if k = ix i then narS (atS W (ix v)) y else W (2 * ix v + 1) k
              by_cases e : k = ix i
              · rw [if_pos (by omega), if_pos e]
                unfold narS
                show _ = if W (2 * ix v) 0 = 0 then _ else if W (2 * ix v) 0 = 1 then _ else _
                rw [← e7]
                first
                  | rw [if_pos h58]
                  | rw [if_neg h58, if_pos h73]
                  | rw [if_neg h58, if_neg h73]
              · rw [if_neg (by omega), if_neg e]
                exact hrs.2 k hk
          · refine a_iload_n C0 3 dX6_put_76 rfl rfl ?_
            refine a_i2s C0 dX6_put_77 ?_
            refine a_goto C0 82 dX6_put_78 rfl ?_
            refine a_iast C0 _ (lt_b rfl) (fun _ => rfl) pp.1 pp.2 dX6_put_82 ?_
            refine a_iconst C0 1 dX6_put_83 rfl ?_
            refine a_iret C0 hr dX6_put_84 ?_
            rw [mkM_X (by decide)]
            refine ⟨_, rfl, by unfold putR; rw [if_pos h4, if_neg hmis, if_pos hci], _, rfl, fun c _ _ h9 => ?_, ?_⟩
            · funext k
              exact if_neg h9
            · unfold putS
              rw [if_pos h4, if_neg hmis, if_pos hci]
              refine rs.set (fun q _ _ => rfl) (fun q _ _ => rfl) (fun q hq hne k hk => if_neg (show ¬ 40 * q + k = 40 * ix v + ix i by have := vp_lt hiv; omega)) ⟨(rs _ hj).1, (rs _ hj).2.1, cn, hcn40, hcn hj, hrs.1, fun k hk => ?_⟩
              show (if 40 * ix v + k = 40 * ix v + ix i then _ else X 9 (40 * ix v + k)) = if k = ix i then narS (atS W (ix v)) y else W (2 * ix v + 1) k
              by_cases e : k = ix i
              · rw [if_pos (by omega), if_pos e]
                unfold narS
                show _ = if W (2 * ix v) 0 = 0 then _ else if W (2 * ix v) 0 = 1 then _ else _
                rw [← e7]
                first
                  | rw [if_pos h58]
                  | rw [if_neg h58, if_pos h73]
                  | rw [if_neg h58, if_neg h73]
              · rw [if_neg (by omega), if_neg e]
                exact hrs.2 k hk
        · refine a_iload_n C0 3 dX6_put_61 rfl rfl ?_
          refine a_i2b C0 dX6_put_62 ?_
          refine a_goto C0 82 dX6_put_63 rfl ?_
          refine a_iast C0 _ (lt_b rfl) (fun _ => rfl) pp.1 pp.2 dX6_put_82 ?_
          refine a_iconst C0 1 dX6_put_83 rfl ?_
          refine a_iret C0 hr dX6_put_84 ?_
          rw [mkM_X (by decide)]
          refine ⟨_, rfl, by unfold putR; rw [if_pos h4, if_neg hmis, if_pos hci], _, rfl, fun c _ _ h9 => ?_, ?_⟩
          · funext k
            exact if_neg h9
          · unfold putS
            rw [if_pos h4, if_neg hmis, if_pos hci]
            refine rs.set (fun q _ _ => rfl) (fun q _ _ => rfl) (fun q hq hne k hk => if_neg (show ¬ 40 * q + k = 40 * ix v + ix i by have := vp_lt hiv; omega)) ⟨(rs _ hj).1, (rs _ hj).2.1, cn, hcn40, hcn hj, hrs.1, fun k hk => ?_⟩
            show (if 40 * ix v + k = 40 * ix v + ix i then _ else X 9 (40 * ix v + k)) = if k = ix i then narS (atS W (ix v)) y else W (2 * ix v + 1) k
            by_cases e : k = ix i
            · rw [if_pos (by omega), if_pos e]
              unfold narS
              show _ = if W (2 * ix v) 0 = 0 then _ else if W (2 * ix v) 0 = 1 then _ else _
              rw [← e7]
              first
                | rw [if_pos h58]
                | rw [if_neg h58, if_pos h73]
                | rw [if_neg h58, if_neg h73]
            · rw [if_neg (by omega), if_neg e]
              exact hrs.2 k hk
      · refine a_bipush C0 (-12) dX6_put_39 rfl ?_
        refine a_iret C0 hr dX6_put_41 ?_
        have hci : ¬ (0 ≤ i ∧ i ≤ W (2 * ix v) 1 - 1) := by
          rw [← e8]
          exact h36
        exact ⟨_, rfl, by unfold putR; rw [if_pos h4, if_neg hmis, if_neg hci], _, rfl, fun _ _ _ _ => rfl, by unfold putS; rw [if_pos h4, if_neg hmis, if_neg hci]; exact rs⟩
    · refine a_bipush C0 (-11) dX6_put_18 rfl ?_
      refine a_iret C0 hr dX6_put_20 ?_
      have hmis := hmi.mp (Int32.not_le.mp h15)
      exact ⟨_, rfl, by unfold putR; rw [if_pos h4, if_pos hmis], _, rfl, fun _ _ _ _ => rfl, by unfold putS; rw [if_pos h4, if_pos hmis]; exact rs⟩
  · refine a_iconst C0 (-1) dX6_put_7 rfl ?_
    refine a_iret C0 hr dX6_put_8 ?_
    exact ⟨_, rfl, by unfold putR; rw [if_neg h4], _, rfl, fun _ _ _ _ => rfl, by unfold putS; rw [if_neg h4]; exact rs⟩
