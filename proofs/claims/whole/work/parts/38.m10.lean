
theorem stX_id {X : WM} {c : Nat} : stX X c (X c) = X := by
  funext q
  unfold stX
  split
  · next h => rw [h]
  · rfl

set_option maxRecDepth 100000 in
set_option maxHeartbeats 4000000 in
theorem c_X6_spread (l : Launch) (G : GE) {ad : Nat → Nat} {M : WM} {O S : RW} {X : WM} {P : WM} {nT mm : Nat} (rp : RP P S nT mm) {y : Int32} (hm : mm + 61 < 2 ^ 31) (hM : M = mkM O S X)  : CT l G yX6_spread cX6_spread 7 (some .int) 4 [.ref (ad 0), .int y] 14 ad (shM G ad) M (PI (fun r u => r = (if (1 ≤ y ∧ y ≤ 30) then (spS P nT (heaP (passP P nT) nT) (ix y)).2 else -1) ∧ ∃ S' X', u = mkM O S' X' ∧ EqX X X' ∧ EqS S S')) := by
  refine CT.of (own := RX6) rfl rfl (le_b rfl) fun p e s m args below meth c A C0 hr => ?_
  refine AW.lo (ls2 := [(0, _), (1, _)]) rfl ?_
  subst hM
  have lp : ∀ (n : Nat) (i : Nat) (xi a b : Int32) (S2 : RW), ix y - i < n → (i ≤ ix y) → (xi = nI i) → ((1 ≤ y ∧ y ≤ 30)) → ((a, b) = spS P nT (heaP (passP P nT) nT) i) → AW p l e (rmk 4) s m args below meth c G A 14 ad (shM G ad) 7 0 0 (MQ below (CQ G 14 ad (shM G ad) A (PI (fun r u => r = (if (1 ≤ y ∧ y ≤ 30) then (spS P nT (heaP (passP P nT) nT) (ix y)).2 else -1) ∧ ∃ S' X', u = mkM O S' X' ∧ EqX X X' ∧ EqS S S'))) args s 0 0 A) 47 [(0, .ref (ad 0)), (1, .int y), (2, .int (heaP (passP P nT) nT)), (3, .int a), (4, .int b), (5, .int xi)] [] (mkM O S2 (stX X 3 (cp63 S (X 3)))) := by
    intro n
    induction n with
    | zero =>
      intro i xi a b S2 hn
      exact absurd hn (Nat.not_lt_zero _)
    | succ n ih =>
      intro i xi a b S2 hn hi hxi hc hab
      refine a_iload C0 5 dX6_spread_47 rfl ?_
      refine a_iload_n C0 1 dX6_spread_49 rfl rfl ?_
      refine a_icmp_ge C0 108 dX6_spread_50 rfl (fun h50 => ?_) (fun h50 => ?_)
      · refine a_aload_n C0 0 dX6_spread_108 rfl rfl ?_
        refine g_X6_16 C0 (lt_b rfl) rfl rfl dX6_spread_109 ?_
        refine a_aload_n C0 0 dX6_spread_112 rfl rfl ?_
        refine g_X6_7 C0 (lt_b rfl) rfl rfl dX6_spread_113 ?_
        refine a_callS _ 2 C0 em_MC31 (c_X6_copyRow l G (ad := fun k => ad (io2 3 1 1 k))) u_c_X6_copyRow u_m_X6_144 u_st_X6_copyRow u_in_X6 hy_X6_copyRow.2 (hRk rfl) rfl rfl (le_b rfl) dX6_spread_116 (k_vo ?_)
        refine AW.cg (M := mkM O (cp63 ((stX X 3 (cp63 S (X 3))) 3) S2) (stX (stX X 3 (cp63 S (X 3))) 3 ((stX X 3 (cp63 S (X 3))) 3))) (fun q _ => by match q with | 0 => rfl | 1 => rfl | q + 2 => rfl) ?_
        refine a_iload C0 4 dX6_spread_119 rfl ?_
        refine a_iret C0 hr dX6_spread_121 ?_
        have e : i = ix y := Nat.le_antisymm hi (i_geY hxi (Nat.lt_of_le_of_lt hi (ix_lt _)) h50)
        subst e
        exact ⟨_, rfl, by rw [if_pos hc, ← hab], _, _, rfl, EqX.tr, EqS.back⟩
      · have hlt : i < ix y := i_ltY hxi (Nat.lt_of_le_of_lt hi (ix_lt _)) h50
        refine a_aload_n C0 0 dX6_spread_53 rfl rfl ?_
        refine g_X6_16 C0 (lt_b rfl) rfl rfl dX6_spread_54 ?_
        refine a_aload_n C0 0 dX6_spread_57 rfl rfl ?_
        refine g_X6_7 C0 (lt_b rfl) rfl rfl dX6_spread_58 ?_
        refine a_callS _ 2 C0 em_MC31 (c_X6_copyRow l G (ad := fun k => ad (io2 3 1 1 k))) u_c_X6_copyRow u_m_X6_144 u_st_X6_copyRow u_in_X6 hy_X6_copyRow.2 (hRk rfl) rfl rfl (le_b rfl) dX6_spread_61 (k_vo ?_)
        refine AW.cg (M := mkM O (cp63 ((stX X 3 (cp63 S (X 3))) 3) S2) (stX X 3 (cp63 S (X 3)))) (fun q _ => by match q with | 0 => rfl | 1 => rfl | q + 2 => exact congrFun stX_id (q + 2)) ?_
        refine a_aload_n C0 0 dX6_spread_64 rfl rfl ?_
        refine g_X6_7 C0 (lt_b rfl) rfl rfl dX6_spread_65 ?_
        refine a_iconst C0 2 dX6_spread_68 rfl ?_
        refine a_iload_n C0 3 dX6_spread_69 rfl rfl ?_
        refine a_iast C0 2 (lt_b rfl) (fun _ => rfl) (vq rfl) rfl dX6_spread_70 ?_
        rw [mkM_S]
        have rpz : RP (up2 P 0 10 a) (upS (cp63 ((stX X 3 (cp63 S (X 3))) 3) S2) 2 a) nT mm := (EqS.back.rp rp).zz
        refine a_aload_n C0 0 dX6_spread_71 rfl rfl ?_
        refine a_callV _ 0 C0 EM.refl (c_X6_minute l G rpz (by omega) rfl) u_c_X6_minute u_m_X6_221 u_im_X6_minute u_se_X6_minute u_in_X6 hy_X6_minute rfl (lt_b rfl) rfl (hRk rfl) rfl rfl (le_b rfl) dX6_spread_72 (k_i fun r72 u72 q72 => ?_)
        obtain ⟨rfl, S4, rfl, rp4⟩ := q72
        refine a_istore (ls2 := [(6, _), (0, _), (1, _), (2, _), (3, _), (4, _), (5, _)]) C0 dX6_spread_75 (lt_b rfl) rfl ?_
        refine a_iload C0 5 dX6_spread_77 rfl ?_
        refine a_aload_n C0 1 dX6_spread_79 rfl rfl ?_
        refine a_callV _ 0 C0 EM.refl (c_X6_heardOfAll l G rp4 rfl) u_c_X6_heardOfAll u_m_X6_218 u_im_X6_heardOfAll u_se_X6_heardOfAll u_in_X6 hy_X6_heardOfAll rfl (lt_b rfl) rfl (hRk rfl) rfl rfl (le_b rfl) dX6_spread_80 (k_ro EM.refl ?_)
        refine a_iload_n C0 3 dX6_spread_83 rfl rfl ?_
        refine a_icmp_le C0 91 dX6_spread_84 rfl (fun h84 => ?_) (fun h84 => ?_)
        · refine a_iconst C0 0 dX6_spread_91 rfl ?_
          refine a_iadd C0 dX6_spread_92 ?_
          refine a_istore (ls2 := [(4, _), (6, _), (0, _), (1, _), (2, _), (3, _), (5, _)]) C0 dX6_spread_93 (lt_b rfl) rfl ?_
          refine a_aload_n C0 2 dX6_spread_95 rfl rfl ?_
          refine g_X6_7 C0 (lt_b rfl) rfl rfl dX6_spread_96 ?_
          refine a_iconst C0 2 dX6_spread_99 rfl ?_
          refine a_iald C0 2 (lt_b rfl) rfl (vq rfl) rfl dX6_spread_100 ?_
          refine a_istore_n (ls2 := [(3, _), (4, _), (6, _), (0, _), (1, _), (2, _), (5, _)]) C0 dX6_spread_101 rfl (lt_b rfl) rfl ?_
          refine a_iinc (ls2 := [(5, _), (3, _), (4, _), (6, _), (0, _), (1, _), (2, _)]) C0 6 1 dX6_spread_102 rfl rfl (lt_b rfl) rfl ?_
          refine a_goto C0 47 dX6_spread_105 rfl ?_
          refine AW.sub (ls2 := [(0, _), (1, _), (2, _), (3, _), (4, _), (5, _)]) [4, 5, 6, 1, 2, 0] rfl ?_
          rw [show mkM O S4 (stX X 3 (cp63 S (X 3))) 1 2 = drawsP (up2 P 0 10 a) nT 0 10 from rp4.z]
          exact ih (i + 1) _ _ _ _ (by omega) hlt (by rw [hxi, nI_1]) hc (by
            show _ = (drawsP (up2 P 0 10 (spS P nT (heaP (passP P nT) nT) i).1) nT 0 10, if (heaP (passP P nT) nT) < heaP (drawsP (up2 P 0 10 (spS P nT (heaP (passP P nT) nT) i).1) nT) nT then (spS P nT (heaP (passP P nT) nT) i).2 + 1 else (spS P nT (heaP (passP P nT) nT) i).2)
            rw [← hab]
            first
              | (have q : (heaP (passP P nT) nT) < heaP (drawsP (up2 P 0 10 a) nT) nT := Int32.not_le.mp h84
                 rw [if_pos q]
                 try rfl)
              | (have q : ¬ (heaP (passP P nT) nT) < heaP (drawsP (up2 P 0 10 a) nT) nT := Int32.not_lt.mpr h84
                 rw [if_neg q, Int32.add_zero]
                 try rfl))
        · refine a_iconst C0 1 dX6_spread_87 rfl ?_
          refine a_goto C0 92 dX6_spread_88 rfl ?_
          refine a_iadd C0 dX6_spread_92 ?_
          refine a_istore (ls2 := [(4, _), (6, _), (0, _), (1, _), (2, _), (3, _), (5, _)]) C0 dX6_spread_93 (lt_b rfl) rfl ?_
          refine a_aload_n C0 2 dX6_spread_95 rfl rfl ?_
          refine g_X6_7 C0 (lt_b rfl) rfl rfl dX6_spread_96 ?_
          refine a_iconst C0 2 dX6_spread_99 rfl ?_
          refine a_iald C0 2 (lt_b rfl) rfl (vq rfl) rfl dX6_spread_100 ?_
          refine a_istore_n (ls2 := [(3, _), (4, _), (6, _), (0, _), (1, _), (2, _), (5, _)]) C0 dX6_spread_101 rfl (lt_b rfl) rfl ?_
          refine a_iinc (ls2 := [(5, _), (3, _), (4, _), (6, _), (0, _), (1, _), (2, _)]) C0 6 1 dX6_spread_102 rfl rfl (lt_b rfl) rfl ?_
          refine a_goto C0 47 dX6_spread_105 rfl ?_
          refine AW.sub (ls2 := [(0, _), (1, _), (2, _), (3, _), (4, _), (5, _)]) [4, 5, 6, 1, 2, 0] rfl ?_
          rw [show mkM O S4 (stX X 3 (cp63 S (X 3))) 1 2 = drawsP (up2 P 0 10 a) nT 0 10 from rp4.z]
          exact ih (i + 1) _ _ _ _ (by omega) hlt (by rw [hxi, nI_1]) hc (by
            show _ = (drawsP (up2 P 0 10 (spS P nT (heaP (passP P nT) nT) i).1) nT 0 10, if (heaP (passP P nT) nT) < heaP (drawsP (up2 P 0 10 (spS P nT (heaP (passP P nT) nT) i).1) nT) nT then (spS P nT (heaP (passP P nT) nT) i).2 + 1 else (spS P nT (heaP (passP P nT) nT) i).2)
            rw [← hab]
            first
              | (have q : (heaP (passP P nT) nT) < heaP (drawsP (up2 P 0 10 a) nT) nT := Int32.not_le.mp h84
                 rw [if_pos q]
                 try rfl)
              | (have q : ¬ (heaP (passP P nT) nT) < heaP (drawsP (up2 P 0 10 a) nT) nT := Int32.not_lt.mpr h84
                 rw [if_neg q, Int32.add_zero]
                 try rfl))
  refine a_iload_n C0 1 dX6_spread_0 rfl rfl ?_
  refine a_i2l C0 dX6_spread_1 ?_
  refine a_lconst C0 1 dX6_spread_2 rfl ?_
  refine a_ldc2 C0 dX6_spread_3 u_k_X6_216 ?_
  refine a_callS _ 3 C0 EM.z (c_X6_isIn l G (w2 := 1) (w3 := 30) rfl rfl rfl) u_c_X6_isIn u_m_X6_54 u_st_X6_isIn u_in_X6 hy_X6_isIn.2 (hRk rfl) rfl rfl (le_b rfl) dX6_spread_6 (k_ro EM.z ?_)
  refine a_if_neb C0 14 dX6_spread_9 rfl (fun h9 => ?_) (fun h9 => ?_)
  · refine a_aload_n C0 0 dX6_spread_14 rfl rfl ?_
    refine g_X6_7 C0 (lt_b rfl) rfl rfl dX6_spread_15 ?_
    refine a_aload_n C0 0 dX6_spread_18 rfl rfl ?_
    refine g_X6_16 C0 (lt_b rfl) rfl rfl dX6_spread_19 ?_
    refine a_callS _ 2 C0 em_MC13 (c_X6_copyRow l G (ad := fun k => ad (io2 1 1 3 k))) u_c_X6_copyRow u_m_X6_144 u_st_X6_copyRow u_in_X6 hy_X6_copyRow.2 (hRk rfl) rfl rfl (le_b rfl) dX6_spread_22 (k_vo ?_)
    refine AW.cg (M := mkM O S (stX X 3 (cp63 S (X 3)))) (fun q _ => by match q with | 0 => rfl | 1 => rfl | q + 2 => rfl) ?_
    refine a_aload_n C0 0 dX6_spread_25 rfl rfl ?_
    refine a_callV _ 0 C0 EM.refl (c_X6_goesOn l G rp (by omega) rfl) u_c_X6_goesOn u_m_X6_201 u_im_X6_goesOn u_se_X6_goesOn u_in_X6 hy_X6_goesOn rfl (lt_b rfl) rfl (hRk rfl) rfl rfl (le_b rfl) dX6_spread_26 (k_v fun u26 q26 => ?_)
    obtain ⟨S3, rfl, rp3⟩ := q26
    refine a_aload_n C0 0 dX6_spread_29 rfl rfl ?_
    refine a_callV _ 0 C0 EM.refl (c_X6_heardOfAll l G rp3 rfl) u_c_X6_heardOfAll u_m_X6_218 u_im_X6_heardOfAll u_se_X6_heardOfAll u_in_X6 hy_X6_heardOfAll rfl (lt_b rfl) rfl (hRk rfl) rfl rfl (le_b rfl) dX6_spread_30 (k_ro EM.refl ?_)
    refine a_istore_n (ls2 := [(2, _), (0, _), (1, _)]) C0 dX6_spread_33 rfl (lt_b rfl) rfl ?_
    refine a_aload_n C0 1 dX6_spread_34 rfl rfl ?_
    refine g_X6_16 C0 (lt_b rfl) rfl rfl dX6_spread_35 ?_
    refine a_iconst C0 2 dX6_spread_38 rfl ?_
    refine a_iald C0 2 (lt_b rfl) rfl (vq rfl) rfl dX6_spread_39 ?_
    refine a_istore_n (ls2 := [(3, _), (2, _), (0, _), (1, _)]) C0 dX6_spread_40 rfl (lt_b rfl) rfl ?_
    refine a_iconst C0 0 dX6_spread_41 rfl ?_
    refine a_istore (ls2 := [(4, _), (3, _), (2, _), (0, _), (1, _)]) C0 dX6_spread_42 (lt_b rfl) rfl ?_
    refine a_iconst C0 0 dX6_spread_44 rfl ?_
    refine a_istore (ls2 := [(5, _), (4, _), (3, _), (2, _), (0, _), (1, _)]) C0 dX6_spread_45 (lt_b rfl) rfl ?_
    refine AW.sub (ls2 := [(0, _), (1, _), (2, _), (3, _), (4, _), (5, _)]) [4, 5, 3, 2, 1, 0] rfl ?_
    rw [show mkM O S3 (stX X 3 (cp63 S (X 3))) 3 2 = P 0 10 from rp.z]
    exact lp (ix y + 1) 0 _ _ _ _ (by omega) (Nat.zero_le _) rfl h9 rfl
  · refine a_iconst C0 (-1) dX6_spread_12 rfl ?_
    refine a_iret C0 hr dX6_spread_13 ?_
    exact ⟨_, rfl, (if_neg h9).symm, _, _, rfl, EqX.refl _, EqS.refl _⟩

def RowR (g : RW) (R : WM) : Prop := ∀ i, i < 10 → ∀ k, k < 3 → g (3 * i + k) = R i k
theorem rp_ {x k : Int32} {t j : Nat} (hx : IX x t 10) (hk : IX k j 3) : IX (3 * x + k) (3 * t + j) 30 := by
  have h1 := hx.lt
  have h2 := hk.lt
  refine IX.eqn ?_ (by omega) (by decide)
  rw [hx.eq (by decide), hk.eq (by decide), show (3 : Int32) = nI 3 from rfl, pk_mul, nI_add]
theorem rp0 {x : Int32} {t : Nat} (hx : IX x t 10) : IX (3 * x) (3 * t + 0) 30 := by
  have h1 := hx.lt
  refine IX.eqn ?_ (by omega) (by decide)
  rw [hx.eq (by decide), show (3 : Int32) = nI 3 from rfl, pk_mul]
  rfl
/-- but for what is laid aside, before, and the rows -/
def EqX6 (X Y : WM) : Prop := ∀ c, c ≠ 3 → c ≠ 4 → c ≠ 6 → Y c = X c
theorem RowR.up {g : RW} {R : WM} {i k : Nat} {v : Int32} (h : RowR g R) (hi : i < 10) (hk : k < 3) : RowR (fun q => if q = 3 * i + k then v else g q) (up2 R i k v) := by
  intro a ha b hb
  show (if 3 * a + b = 3 * i + k then v else g (3 * a + b)) = if a = i then (if b = k then v else R a b) else R a b
  by_cases e : a = i
  · by_cases e2 : b = k
    · rw [if_pos (by omega), if_pos e, if_pos e2]
    · rw [if_neg (by omega), if_pos e, if_neg e2, h a ha b hb]
  · rw [if_neg (by omega), if_neg e, h a ha b hb]

set_option maxRecDepth 100000 in
set_option maxHeartbeats 4000000 in
theorem c_X6_isRow (l : Launch) (G : GE) {ad : Nat → Nat} {M : WM} {O S : RW} {X : WM} {v y : Int32} (hM : M = mkM O S X)  : CT l G yX6_isRow cX6_isRow 3 (some .boolean) 1 [.ref (ad 0), .int v, .int y] 14 ad (shM G ad) M (PI (fun r u => r = bI ((0 ≤ v ∧ v ≤ O 13 - 1) ∧ (0 ≤ y ∧ y ≤ 2)) ∧ u = mkM O S X)) := by
  refine CT.of (own := RX6) rfl rfl (le_b rfl) fun p e s m args below meth c A C0 hr => ?_
  refine AW.lo (ls2 := [(0, _), (1, _), (2, _)]) rfl ?_
  subst hM
  refine a_iload_n C0 1 dX6_isRow_0 rfl rfl ?_
  refine a_i2l C0 dX6_isRow_1 ?_
  refine a_lconst C0 0 dX6_isRow_2 rfl ?_
  refine a_aload_n C0 0 dX6_isRow_3 rfl rfl ?_
  refine g_X6_151 C0 (lt_b rfl) rfl rfl dX6_isRow_4 ?_
  refine a_iconst C0 1 dX6_isRow_7 rfl ?_
  refine a_isub C0 dX6_isRow_8 ?_
  refine a_i2l C0 dX6_isRow_9 ?_
  refine a_callS _ 3 C0 EM.z (c_X6_isIn l G (w2 := 0) rfl rfl rfl) u_c_X6_isIn u_m_X6_54 u_st_X6_isIn u_in_X6 hy_X6_isIn.2 (hRk rfl) rfl rfl (le_b rfl) dX6_isRow_10 (k_ro EM.z ?_)
  refine a_if_eqb C0 32 dX6_isRow_13 rfl (fun h13 => ?_) (fun h13 => ?_)
  · refine a_iconst C0 0 dX6_isRow_32 rfl ?_
    refine a_zret C0 hr rfl dX6_isRow_33 ?_
    refine rt_ ?_
    first
      | exact (bI_t ⟨h13, h25⟩).symm
      | exact (bI_f fun q => h13 q.1).symm
      | exact (bI_f fun q => h25 q.2).symm
  · refine a_iload_n C0 2 dX6_isRow_16 rfl rfl ?_
    refine a_i2l C0 dX6_isRow_17 ?_
    refine a_lconst C0 0 dX6_isRow_18 rfl ?_
    refine a_ldc2 C0 dX6_isRow_19 u_k_X6_185 ?_
    refine a_callS _ 3 C0 EM.z (c_X6_isIn l G (w2 := 0) (w3 := 2) rfl rfl rfl) u_c_X6_isIn u_m_X6_54 u_st_X6_isIn u_in_X6 hy_X6_isIn.2 (hRk rfl) rfl rfl (le_b rfl) dX6_isRow_22 (k_ro EM.z ?_)
    refine a_if_eqb C0 32 dX6_isRow_25 rfl (fun h25 => ?_) (fun h25 => ?_)
    · refine a_iconst C0 0 dX6_isRow_32 rfl ?_
      refine a_zret C0 hr rfl dX6_isRow_33 ?_
      refine rt_ ?_
      first
        | exact (bI_t ⟨h13, h25⟩).symm
        | exact (bI_f fun q => h13 q.1).symm
        | exact (bI_f fun q => h25 q.2).symm
    · refine a_iconst C0 1 dX6_isRow_28 rfl ?_
      refine a_goto C0 33 dX6_isRow_29 rfl ?_
      refine a_zret C0 hr rfl dX6_isRow_33 ?_
      refine rt_ ?_
      first
        | exact (bI_t ⟨h13, h25⟩).symm
        | exact (bI_f fun q => h13 q.1).symm
        | exact (bI_f fun q => h25 q.2).symm
set_option maxRecDepth 100000 in
set_option maxHeartbeats 4000000 in
theorem c_X6_row (l : Launch) (G : GE) {ad : Nat → Nat} {M : WM} {O S : RW} {X : WM} {v y : Int32} {OX : RW} {R : WM} {cn : Nat} (e6 : O 13 = OX 6) (hcn : OX 6 = nI cn) (hcn10 : cn ≤ 10) (hR : RowR (X 6) R) (hM : M = mkM O S X)  : CT l G yX6_row cX6_row 3 (some .int) 2 [.ref (ad 0), .int v, .int y] 14 ad (shM G ad) M (PI (fun r u => r = (if isRw OX v y then R (ix v) (ix y) else -9) ∧ u = mkM O S X)) := by
  refine CT.of (own := RX6) rfl rfl (le_b rfl) fun p e s m args below meth c A C0 hr => ?_
  refine AW.lo (ls2 := [(0, _), (1, _), (2, _)]) rfl ?_
  subst hM
  refine a_aload_n C0 0 dX6_row_0 rfl rfl ?_
  refine a_iload_n C0 1 dX6_row_1 rfl rfl ?_
  refine a_iload_n C0 2 dX6_row_2 rfl rfl ?_
  refine a_callV _ 2 C0 EM.refl (c_X6_isRow l G rfl) u_c_X6_isRow u_m_X6_278 u_im_X6_isRow u_se_X6_isRow u_in_X6 hy_X6_isRow rfl (lt_b rfl) rfl (hRk rfl) rfl rfl (le_b rfl) dX6_row_3 (k_ro EM.refl ?_)
  refine a_if_eqb C0 22 dX6_row_6 rfl (fun h6 => ?_) (fun h6 => ?_)
  · refine a_bipush C0 (-9) dX6_row_22 rfl ?_
    refine a_iret C0 hr dX6_row_24 ?_
    first
      | exact rt_ (by rw [if_pos h6]; exact hR _ (vp_lt hv10) _ (vp_lt hy3))
      | (have h6 : ¬ isRw OX v y := fun q => h6 (by rw [e6]; exact q)
         exact rt_ (if_neg h6).symm)
  · have h6 : isRw OX v y := by
      have q := h6
      rw [e6] at q
      exact q
    have hvi := (rng_N hcn (by omega)).mp h6.1
    have hv10 := vp_le hvi hcn10
    have hy3 := in_of (n := 2) (by decide) h6.2
    have hp := rp_ (IX.v hv10) (IX.v hy3)
    refine a_aload_n C0 0 dX6_row_9 rfl rfl ?_
    refine g_X6_25 C0 (lt_b rfl) rfl rfl dX6_row_10 ?_
    refine a_iconst C0 3 dX6_row_13 rfl ?_
    refine a_iload_n C0 1 dX6_row_14 rfl rfl ?_
    refine a_imul C0 dX6_row_15 ?_
    refine a_iload_n C0 2 dX6_row_16 rfl rfl ?_
    refine a_iadd C0 dX6_row_17 ?_
    refine a_iald C0 _ (lt_b rfl) rfl hp.1 hp.2 dX6_row_18 ?_
    refine a_goto C0 24 dX6_row_19 rfl ?_
    refine a_iret C0 hr dX6_row_24 ?_
    first
      | exact rt_ (by rw [if_pos h6]; exact hR _ (vp_lt hv10) _ (vp_lt hy3))
      | (have h6 : ¬ isRw OX v y := fun q => h6 (by rw [e6]; exact q)
         exact rt_ (if_neg h6).symm)
set_option maxRecDepth 100000 in
set_option maxHeartbeats 4000000 in
theorem c_X6_alterRow (l : Launch) (G : GE) {ad : Nat → Nat} {M : WM} {O S : RW} {X : WM} {v y x : Int32} {OX : RW} {R : WM} {cn : Nat} (e6 : O 13 = OX 6) (hcn : OX 6 = nI cn) (hcn10 : cn ≤ 10) (hR : RowR (X 6) R) (hM : M = mkM O S X)  : CT l G yX6_alterRow cX6_alterRow 5 (some .int) 2 [.ref (ad 0), .int v, .int y, .int x] 14 ad (shM G ad) M (PI (fun r u => r = (if isRw OX v y then R (ix v) (ix y) else -9) ∧ ∃ X', u = mkM O S X' ∧ EqX6 X X' ∧ RowR (X' 6) (if isRw OX v y then up2 R (ix v) (ix y) x else R))) := by
  refine CT.of (own := RX6) rfl rfl (le_b rfl) fun p e s m args below meth c A C0 hr => ?_
  refine AW.lo (ls2 := [(0, _), (1, _), (2, _), (3, _)]) rfl ?_
  subst hM
  refine a_aload_n C0 0 dX6_alterRow_0 rfl rfl ?_
  refine a_iload_n C0 1 dX6_alterRow_1 rfl rfl ?_
  refine a_iload_n C0 2 dX6_alterRow_2 rfl rfl ?_
  refine a_callV _ 2 C0 EM.refl (c_X6_isRow l G rfl) u_c_X6_isRow u_m_X6_278 u_im_X6_isRow u_se_X6_isRow u_in_X6 hy_X6_isRow rfl (lt_b rfl) rfl (hRk rfl) rfl rfl (le_b rfl) dX6_alterRow_3 (k_ro EM.refl ?_)
  refine a_if_neb C0 12 dX6_alterRow_6 rfl (fun h6 => ?_) (fun h6 => ?_)
  · have h6 : isRw OX v y := by
      have q := h6
      rw [e6] at q
      exact q
    have hvi := (rng_N hcn (by omega)).mp h6.1
    have hv10 := vp_le hvi hcn10
    have hy3 := in_of (n := 2) (by decide) h6.2
    have hp := rp_ (IX.v hv10) (IX.v hy3)
    refine a_aload_n C0 0 dX6_alterRow_12 rfl rfl ?_
    refine g_X6_25 C0 (lt_b rfl) rfl rfl dX6_alterRow_13 ?_
    refine a_iconst C0 3 dX6_alterRow_16 rfl ?_
    refine a_iload_n C0 1 dX6_alterRow_17 rfl rfl ?_
    refine a_imul C0 dX6_alterRow_18 ?_
    refine a_iload_n C0 2 dX6_alterRow_19 rfl rfl ?_
    refine a_iadd C0 dX6_alterRow_20 ?_
    refine a_iald C0 _ (lt_b rfl) rfl hp.1 hp.2 dX6_alterRow_21 ?_
    refine a_istore (ls2 := [(4, _), (0, _), (1, _), (2, _), (3, _)]) C0 dX6_alterRow_22 (lt_b rfl) rfl ?_
    refine a_aload_n C0 1 dX6_alterRow_24 rfl rfl ?_
    refine g_X6_25 C0 (lt_b rfl) rfl rfl dX6_alterRow_25 ?_
    refine a_iconst C0 3 dX6_alterRow_28 rfl ?_
    refine a_iload_n C0 2 dX6_alterRow_29 rfl rfl ?_
    refine a_imul C0 dX6_alterRow_30 ?_
    refine a_iload_n C0 3 dX6_alterRow_31 rfl rfl ?_
    refine a_iadd C0 dX6_alterRow_32 ?_
    refine a_iload_n C0 4 dX6_alterRow_33 rfl rfl ?_
    refine a_iast C0 _ (lt_b rfl) (fun _ => rfl) hp.1 hp.2 dX6_alterRow_34 ?_
    refine a_iload C0 0 dX6_alterRow_35 rfl ?_
    refine a_iret C0 hr dX6_alterRow_37 ?_
    rw [mkM_X (by decide)]
    refine ⟨_, rfl, ?_, _, rfl, fun c _ _ h => ?_, ?_⟩
    · rw [if_pos h6]
      exact hR _ (vp_lt hv10) _ (vp_lt hy3)
    · funext k
      exact if_neg h
    · rw [if_pos h6]
      exact hR.up (vp_lt hv10) (vp_lt hy3)
  · refine a_bipush C0 (-9) dX6_alterRow_9 rfl ?_
    refine a_iret C0 hr dX6_alterRow_11 ?_
    have h6 : ¬ isRw OX v y := fun q => h6 (by rw [e6]; exact q)
    exact ⟨_, rfl, (if_neg h6).symm, _, rfl, fun _ _ _ _ => rfl, by rw [if_neg h6]; exact hR⟩
set_option maxRecDepth 100000 in
set_option maxHeartbeats 4000000 in
theorem c_X6_judge (l : Launch) (G : GE) {ad : Nat → Nat} {M : WM} {O S : RW} {X : WM} {P : WM} {nT mm : Nat} (rp : RP P S nT mm) {x : Int32} {OX : RW} {R : WM} {cn : Nat} (e6 : O 13 = OX 6) (hcn : OX 6 = nI cn) (hcn10 : cn ≤ 10) (hR : RowR (X 6) R) (hm : mm + 61 < 2 ^ 31) (hM : M = mkM O S X)  : CT l G yX6_judge cX6_judge 4 (some .int) 3 [.ref (ad 0), .int x] 14 ad (shM G ad) M (PI (fun r u => r = (if isTl P x then jgS R (ix x) cn 0 P else -1) ∧ ∃ S' X', u = mkM O S' X' ∧ EqX X X' ∧ EqS S S')) := by
  refine CT.of (own := RX6) rfl rfl (le_b rfl) fun p e s m args below meth c A C0 hr => ?_
  refine AW.lo (ls2 := [(0, _), (1, _)]) rfl ?_
  subst hM
  have lp : ∀ (n : Nat) (i : Nat) (xi b : Int32) (P2 Q2 : WM) (S2 : RW), cn - i < n → (i ≤ cn) → (xi = nI i) → (isTl P x) → (RP P2 S2 nT (mm + i)) → (Sm (ix x) P2 Q2) → ((b = 1 ∧ jgS R (ix x) (cn - i) i Q2 = jgS R (ix x) cn 0 P) ∨ (b = 0 ∧ jgS R (ix x) cn 0 P = nI i)) → AW p l e (rmk 3) s m args below meth c G A 14 ad (shM G ad) 4 0 0 (MQ below (CQ G 14 ad (shM G ad) A (PI (fun r u => r = (if isTl P x then jgS R (ix x) cn 0 P else -1) ∧ ∃ S' X', u = mkM O S' X' ∧ EqX X X' ∧ EqS S S'))) args s 0 0 A) 25 [(0, .ref (ad 0)), (1, .int x), (2, .int xi), (3, .int b)] [] (mkM O S2 (stX X 3 (cp63 S (X 3)))) := by
    intro n
    induction n with
    | zero =>
      intro i xi b P2 Q2 S2 hn
      exact absurd hn (Nat.not_lt_zero _)
    | succ n ih =>
      intro i xi b P2 Q2 S2 hn hi hxi h5 rp3 sm hmv
      have hv := (isTl_in rp.w).mp h5
      have hx : IX x (ix x) nT := IX.v hv
      refine a_iload_n C0 2 dX6_judge_25 rfl rfl ?_
      refine a_aload_n C0 0 dX6_judge_26 rfl rfl ?_
      refine g_X6_151 C0 (lt_b rfl) rfl rfl dX6_judge_27 ?_
      refine a_icmp_ge C0 108 dX6_judge_30 rfl (fun h30 => ?_) (fun h30 => ?_)
      · refine a_aload_n C0 0 dX6_judge_108 rfl rfl ?_
        refine g_X6_16 C0 (lt_b rfl) rfl rfl dX6_judge_109 ?_
        refine a_aload_n C0 0 dX6_judge_112 rfl rfl ?_
        refine g_X6_7 C0 (lt_b rfl) rfl rfl dX6_judge_113 ?_
        refine a_callS _ 2 C0 em_MC31 (c_X6_copyRow l G (ad := fun k => ad (io2 3 1 1 k))) u_c_X6_copyRow u_m_X6_144 u_st_X6_copyRow u_in_X6 hy_X6_copyRow.2 (hRk rfl) rfl rfl (le_b rfl) dX6_judge_116 (k_vo ?_)
        refine AW.cg (M := mkM O (cp63 ((stX X 3 (cp63 S (X 3))) 3) S2) (stX (stX X 3 (cp63 S (X 3))) 3 ((stX X 3 (cp63 S (X 3))) 3))) (fun q _ => by match q with | 0 => rfl | 1 => rfl | q + 2 => rfl) ?_
        refine a_iload_n C0 3 dX6_judge_119 rfl rfl ?_
        refine a_if_eq C0 127 dX6_judge_120 rfl (fun h120 => ?_) (fun h120 => ?_)
        · refine a_iload_n C0 2 dX6_judge_127 rfl rfl ?_
          refine a_iret C0 hr dX6_judge_128 ?_
          refine ⟨_, rfl, ?_, _, _, rfl, EqX.tr, EqS.back⟩
          rw [if_pos h5]
          rcases hmv with ⟨b0, q⟩ | ⟨b1, q⟩
          · first
              | exact absurd (h120.symm.trans b0) (by decide)
              | (exfalso
                 rw [b0] at h34
                 exact absurd h34 (by decide))
              | (have hge : i = cn := Nat.le_antisymm hi (i_ge hxi (e6.trans hcn) (by omega) (by omega) h30)
                 rw [← q, hge, Nat.sub_self]
                 rfl)
          · first
              | exact absurd b1 h120
              | (rw [q]
                 exact hxi)
        · refine a_iconst C0 0 dX6_judge_123 rfl ?_
          refine a_goto C0 128 dX6_judge_124 rfl ?_
          refine a_iret C0 hr dX6_judge_128 ?_
          refine ⟨_, rfl, ?_, _, _, rfl, EqX.tr, EqS.back⟩
          rw [if_pos h5]
          rcases hmv with ⟨b0, q⟩ | ⟨b1, q⟩
          · first
              | exact absurd (h120.symm.trans b0) (by decide)
              | (exfalso
                 rw [b0] at h34
                 exact absurd h34 (by decide))
              | (have hge : i = cn := Nat.le_antisymm hi (i_ge hxi (e6.trans hcn) (by omega) (by omega) h30)
                 rw [← q, hge, Nat.sub_self]
                 rfl)
          · first
              | exact absurd b1 h120
              | (rw [q]
                 exact hxi)
      · refine a_iload_n C0 3 dX6_judge_33 rfl rfl ?_
        refine a_if_eq C0 108 dX6_judge_34 rfl (fun h34 => ?_) (fun h34 => ?_)
        · refine a_aload_n C0 0 dX6_judge_108 rfl rfl ?_
          refine g_X6_16 C0 (lt_b rfl) rfl rfl dX6_judge_109 ?_
          refine a_aload_n C0 0 dX6_judge_112 rfl rfl ?_
          refine g_X6_7 C0 (lt_b rfl) rfl rfl dX6_judge_113 ?_
          refine a_callS _ 2 C0 em_MC31 (c_X6_copyRow l G (ad := fun k => ad (io2 3 1 1 k))) u_c_X6_copyRow u_m_X6_144 u_st_X6_copyRow u_in_X6 hy_X6_copyRow.2 (hRk rfl) rfl rfl (le_b rfl) dX6_judge_116 (k_vo ?_)
          refine AW.cg (M := mkM O (cp63 ((stX X 3 (cp63 S (X 3))) 3) S2) (stX (stX X 3 (cp63 S (X 3))) 3 ((stX X 3 (cp63 S (X 3))) 3))) (fun q _ => by match q with | 0 => rfl | 1 => rfl | q + 2 => rfl) ?_
          refine a_iload_n C0 3 dX6_judge_119 rfl rfl ?_
          refine a_if_eq C0 127 dX6_judge_120 rfl (fun h120 => ?_) (fun h120 => ?_)
          · refine a_iload_n C0 2 dX6_judge_127 rfl rfl ?_
            refine a_iret C0 hr dX6_judge_128 ?_
            refine ⟨_, rfl, ?_, _, _, rfl, EqX.tr, EqS.back⟩
            rw [if_pos h5]
            rcases hmv with ⟨b0, q⟩ | ⟨b1, q⟩
            · first
                | exact absurd (h120.symm.trans b0) (by decide)
                | (exfalso
                   rw [b0] at h34
                   exact absurd h34 (by decide))
                | (have hge : i = cn := Nat.le_antisymm hi (i_ge hxi (e6.trans hcn) (by omega) (by omega) h30)
                   rw [← q, hge, Nat.sub_self]
                   rfl)
            · first
                | exact absurd b1 h120
                | (rw [q]
                   exact hxi)
          · refine a_iconst C0 0 dX6_judge_123 rfl ?_
            refine a_goto C0 128 dX6_judge_124 rfl ?_
            refine a_iret C0 hr dX6_judge_128 ?_
            refine ⟨_, rfl, ?_, _, _, rfl, EqX.tr, EqS.back⟩
            rw [if_pos h5]
            rcases hmv with ⟨b0, q⟩ | ⟨b1, q⟩
            · first
                | exact absurd (h120.symm.trans b0) (by decide)
                | (exfalso
                   rw [b0] at h34
                   exact absurd h34 (by decide))
                | (have hge : i = cn := Nat.le_antisymm hi (i_ge hxi (e6.trans hcn) (by omega) (by omega) h30)
                   rw [← q, hge, Nat.sub_self]
                   rfl)
            · first
                | exact absurd b1 h120
                | (rw [q]
                   exact hxi)
        · have hlt : i < cn := i_lt hxi (e6.trans hcn) (by omega) (by omega) h30
          have hxx : IX xi i 10 := IX.eqn hxi (by omega) (by decide)
          have p0 := rp0 hxx
          have p1 := rp_ (k := 1) (j := 1) hxx ⟨vq rfl, rfl⟩
          have p2 := rp_ (k := 2) (j := 2) hxx ⟨vq rfl, rfl⟩
          have r0 : (stX X 3 (cp63 S (X 3))) 6 (3 * i + 0) = R i 0 := hR i (by omega) 0 (by decide)
          have r1 : (stX X 3 (cp63 S (X 3))) 6 (3 * i + 1) = R i 1 := hR i (by omega) 1 (by decide)
          have r2 : (stX X 3 (cp63 S (X 3))) 6 (3 * i + 2) = R i 2 := hR i (by omega) 2 (by decide)
          refine a_aload_n C0 0 dX6_judge_37 rfl rfl ?_
          refine a_callV _ 0 C0 EM.refl (c_X6_goesOn l G rp3 (by omega) rfl) u_c_X6_goesOn u_m_X6_201 u_im_X6_goesOn u_se_X6_goesOn u_in_X6 hy_X6_goesOn rfl (lt_b rfl) rfl (hRk rfl) rfl rfl (le_b rfl) dX6_judge_38 (k_v fun u38 q38 => ?_)
          obtain ⟨S4, rfl, rp4⟩ := q38
          refine a_aload_n C0 0 dX6_judge_41 rfl rfl ?_
          refine g_X6_25 C0 (lt_b rfl) rfl rfl dX6_judge_42 ?_
          refine a_iconst C0 3 dX6_judge_45 rfl ?_
          refine a_iload_n C0 2 dX6_judge_46 rfl rfl ?_
          refine a_imul C0 dX6_judge_47 ?_
          refine a_iald C0 _ (lt_b rfl) rfl p0.1 p0.2 dX6_judge_48 ?_
          refine a_aload_n C0 0 dX6_judge_49 rfl rfl ?_
          refine a_iload_n C0 1 dX6_judge_50 rfl rfl ?_
          refine a_iconst C0 2 dX6_judge_51 rfl ?_
          refine a_callV _ 2 C0 EM.refl (c_X6_its l G (c := 6) rp4 hx ⟨vq rfl, rfl⟩ rfl rfl) u_c_X6_its u_m_X6_167 u_im_X6_its u_se_X6_its u_in_X6 hy_X6_its rfl (lt_b rfl) rfl (hRk rfl) rfl rfl (le_b rfl) dX6_judge_52 (k_ro EM.refl ?_)
          refine a_icmp_ne C0 100 dX6_judge_55 rfl (fun h55 => ?_) (fun h55 => ?_)
          · refine a_iconst C0 0 dX6_judge_100 rfl ?_
            refine a_istore_n (ls2 := [(3, _), (0, _), (1, _), (2, _)]) C0 dX6_judge_101 rfl (lt_b rfl) rfl ?_
            refine a_iinc (ls2 := [(2, _), (3, _), (0, _), (1, _)]) C0 3 1 dX6_judge_102 rfl rfl (lt_b rfl) rfl ?_
            refine a_goto C0 25 dX6_judge_105 rfl ?_
            refine AW.sub (ls2 := [(0, _), (1, _), (2, _), (3, _)]) [2, 3, 0, 1] rfl ?_
            have hcm := (hmv.resolve_right fun q => h34 q.1).2
            have sm2 := sm.pass hx.lt
            exact ih (i + 1) _ _ _ _ _ (by omega) hlt (by rw [hxi, nI_1]) h5 rp4 sm2 (by
              rw [← hcm, show cn - i = (cn - (i + 1)) + 1 by omega]
              first
                | exact Or.inl ⟨rfl, (if_pos ⟨(r0.symm.trans h55).trans sm2.at, (r1.symm.trans h74).trans sm2.he, (r2.symm.trans h93).trans sm2.hd⟩).symm⟩
                | exact Or.inr ⟨rfl, (if_neg fun q => h55 (r0.trans (q.1.trans sm2.at.symm))).trans (nI_1 i)⟩
                | exact Or.inr ⟨rfl, (if_neg fun q => h74 (r1.trans (q.2.1.trans sm2.he.symm))).trans (nI_1 i)⟩
                | exact Or.inr ⟨rfl, (if_neg fun q => h93 (r2.trans (q.2.2.trans sm2.hd.symm))).trans (nI_1 i)⟩)
          · refine a_aload_n C0 0 dX6_judge_58 rfl rfl ?_
            refine g_X6_25 C0 (lt_b rfl) rfl rfl dX6_judge_59 ?_
            refine a_iconst C0 3 dX6_judge_62 rfl ?_
            refine a_iload_n C0 2 dX6_judge_63 rfl rfl ?_
            refine a_imul C0 dX6_judge_64 ?_
            refine a_iconst C0 1 dX6_judge_65 rfl ?_
            refine a_iadd C0 dX6_judge_66 ?_
            refine a_iald C0 _ (lt_b rfl) rfl p1.1 p1.2 dX6_judge_67 ?_
            refine a_aload_n C0 0 dX6_judge_68 rfl rfl ?_
            refine a_iload_n C0 1 dX6_judge_69 rfl rfl ?_
            refine a_iconst C0 1 dX6_judge_70 rfl ?_
            refine a_callV _ 2 C0 EM.refl (c_X6_its l G (c := 5) rp4 hx ⟨vq rfl, rfl⟩ rfl rfl) u_c_X6_its u_m_X6_167 u_im_X6_its u_se_X6_its u_in_X6 hy_X6_its rfl (lt_b rfl) rfl (hRk rfl) rfl rfl (le_b rfl) dX6_judge_71 (k_ro EM.refl ?_)
            refine a_icmp_ne C0 100 dX6_judge_74 rfl (fun h74 => ?_) (fun h74 => ?_)
            · refine a_iconst C0 0 dX6_judge_100 rfl ?_
              refine a_istore_n (ls2 := [(3, _), (0, _), (1, _), (2, _)]) C0 dX6_judge_101 rfl (lt_b rfl) rfl ?_
              refine a_iinc (ls2 := [(2, _), (3, _), (0, _), (1, _)]) C0 3 1 dX6_judge_102 rfl rfl (lt_b rfl) rfl ?_
              refine a_goto C0 25 dX6_judge_105 rfl ?_
              refine AW.sub (ls2 := [(0, _), (1, _), (2, _), (3, _)]) [2, 3, 0, 1] rfl ?_
              have hcm := (hmv.resolve_right fun q => h34 q.1).2
              have sm2 := sm.pass hx.lt
              exact ih (i + 1) _ _ _ _ _ (by omega) hlt (by rw [hxi, nI_1]) h5 rp4 sm2 (by
                rw [← hcm, show cn - i = (cn - (i + 1)) + 1 by omega]
                first
                  | exact Or.inl ⟨rfl, (if_pos ⟨(r0.symm.trans h55).trans sm2.at, (r1.symm.trans h74).trans sm2.he, (r2.symm.trans h93).trans sm2.hd⟩).symm⟩
                  | exact Or.inr ⟨rfl, (if_neg fun q => h55 (r0.trans (q.1.trans sm2.at.symm))).trans (nI_1 i)⟩
                  | exact Or.inr ⟨rfl, (if_neg fun q => h74 (r1.trans (q.2.1.trans sm2.he.symm))).trans (nI_1 i)⟩
                  | exact Or.inr ⟨rfl, (if_neg fun q => h93 (r2.trans (q.2.2.trans sm2.hd.symm))).trans (nI_1 i)⟩)
            · refine a_aload_n C0 0 dX6_judge_77 rfl rfl ?_
              refine g_X6_25 C0 (lt_b rfl) rfl rfl dX6_judge_78 ?_
              refine a_iconst C0 3 dX6_judge_81 rfl ?_
              refine a_iload_n C0 2 dX6_judge_82 rfl rfl ?_
              refine a_imul C0 dX6_judge_83 ?_
              refine a_iconst C0 2 dX6_judge_84 rfl ?_
              refine a_iadd C0 dX6_judge_85 ?_
              refine a_iald C0 _ (lt_b rfl) rfl p2.1 p2.2 dX6_judge_86 ?_
              refine a_aload_n C0 0 dX6_judge_87 rfl rfl ?_
              refine a_iload_n C0 1 dX6_judge_88 rfl rfl ?_
              refine a_iconst C0 3 dX6_judge_89 rfl ?_
              refine a_callV _ 2 C0 EM.refl (c_X6_its l G (c := 7) rp4 hx ⟨vq rfl, rfl⟩ rfl rfl) u_c_X6_its u_m_X6_167 u_im_X6_its u_se_X6_its u_in_X6 hy_X6_its rfl (lt_b rfl) rfl (hRk rfl) rfl rfl (le_b rfl) dX6_judge_90 (k_ro EM.refl ?_)
              refine a_icmp_ne C0 100 dX6_judge_93 rfl (fun h93 => ?_) (fun h93 => ?_)
              · refine a_iconst C0 0 dX6_judge_100 rfl ?_
                refine a_istore_n (ls2 := [(3, _), (0, _), (1, _), (2, _)]) C0 dX6_judge_101 rfl (lt_b rfl) rfl ?_
                refine a_iinc (ls2 := [(2, _), (3, _), (0, _), (1, _)]) C0 3 1 dX6_judge_102 rfl rfl (lt_b rfl) rfl ?_
                refine a_goto C0 25 dX6_judge_105 rfl ?_
                refine AW.sub (ls2 := [(0, _), (1, _), (2, _), (3, _)]) [2, 3, 0, 1] rfl ?_
                have hcm := (hmv.resolve_right fun q => h34 q.1).2
                have sm2 := sm.pass hx.lt
                exact ih (i + 1) _ _ _ _ _ (by omega) hlt (by rw [hxi, nI_1]) h5 rp4 sm2 (by
                  rw [← hcm, show cn - i = (cn - (i + 1)) + 1 by omega]
                  first
                    | exact Or.inl ⟨rfl, (if_pos ⟨(r0.symm.trans h55).trans sm2.at, (r1.symm.trans h74).trans sm2.he, (r2.symm.trans h93).trans sm2.hd⟩).symm⟩
                    | exact Or.inr ⟨rfl, (if_neg fun q => h55 (r0.trans (q.1.trans sm2.at.symm))).trans (nI_1 i)⟩
                    | exact Or.inr ⟨rfl, (if_neg fun q => h74 (r1.trans (q.2.1.trans sm2.he.symm))).trans (nI_1 i)⟩
                    | exact Or.inr ⟨rfl, (if_neg fun q => h93 (r2.trans (q.2.2.trans sm2.hd.symm))).trans (nI_1 i)⟩)
              · refine a_iconst C0 1 dX6_judge_96 rfl ?_
                refine a_goto C0 101 dX6_judge_97 rfl ?_
                refine a_istore_n (ls2 := [(3, _), (0, _), (1, _), (2, _)]) C0 dX6_judge_101 rfl (lt_b rfl) rfl ?_
                refine a_iinc (ls2 := [(2, _), (3, _), (0, _), (1, _)]) C0 3 1 dX6_judge_102 rfl rfl (lt_b rfl) rfl ?_
                refine a_goto C0 25 dX6_judge_105 rfl ?_
                refine AW.sub (ls2 := [(0, _), (1, _), (2, _), (3, _)]) [2, 3, 0, 1] rfl ?_
                have hcm := (hmv.resolve_right fun q => h34 q.1).2
                have sm2 := sm.pass hx.lt
                exact ih (i + 1) _ _ _ _ _ (by omega) hlt (by rw [hxi, nI_1]) h5 rp4 sm2 (by
                  rw [← hcm, show cn - i = (cn - (i + 1)) + 1 by omega]
                  first
                    | exact Or.inl ⟨rfl, (if_pos ⟨(r0.symm.trans h55).trans sm2.at, (r1.symm.trans h74).trans sm2.he, (r2.symm.trans h93).trans sm2.hd⟩).symm⟩
                    | exact Or.inr ⟨rfl, (if_neg fun q => h55 (r0.trans (q.1.trans sm2.at.symm))).trans (nI_1 i)⟩
                    | exact Or.inr ⟨rfl, (if_neg fun q => h74 (r1.trans (q.2.1.trans sm2.he.symm))).trans (nI_1 i)⟩
                    | exact Or.inr ⟨rfl, (if_neg fun q => h93 (r2.trans (q.2.2.trans sm2.hd.symm))).trans (nI_1 i)⟩)
  refine a_aload_n C0 0 dX6_judge_0 rfl rfl ?_
  refine a_iload_n C0 1 dX6_judge_1 rfl rfl ?_
  refine a_callV _ 1 C0 EM.refl (c_X6_isOne l G rp  rfl) u_c_X6_isOne u_m_X6_173 u_im_X6_isOne u_se_X6_isOne u_in_X6 hy_X6_isOne rfl (lt_b rfl) rfl (hRk rfl) rfl rfl (le_b rfl) dX6_judge_2 (k_ro EM.refl ?_)
  refine a_if_neb C0 10 dX6_judge_5 rfl (fun h5 => ?_) (fun h5 => ?_)
  · refine a_aload_n C0 0 dX6_judge_10 rfl rfl ?_
    refine g_X6_7 C0 (lt_b rfl) rfl rfl dX6_judge_11 ?_
    refine a_aload_n C0 0 dX6_judge_14 rfl rfl ?_
    refine g_X6_16 C0 (lt_b rfl) rfl rfl dX6_judge_15 ?_
    refine a_callS _ 2 C0 em_MC13 (c_X6_copyRow l G (ad := fun k => ad (io2 1 1 3 k))) u_c_X6_copyRow u_m_X6_144 u_st_X6_copyRow u_in_X6 hy_X6_copyRow.2 (hRk rfl) rfl rfl (le_b rfl) dX6_judge_18 (k_vo ?_)
    refine AW.cg (M := mkM O S (stX X 3 (cp63 S (X 3)))) (fun q _ => by match q with | 0 => rfl | 1 => rfl | q + 2 => rfl) ?_
    refine a_iconst C0 0 dX6_judge_21 rfl ?_
    refine a_istore_n (ls2 := [(2, _), (0, _), (1, _)]) C0 dX6_judge_22 rfl (lt_b rfl) rfl ?_
    refine a_iconst C0 1 dX6_judge_23 rfl ?_
    refine a_istore_n (ls2 := [(3, _), (2, _), (0, _), (1, _)]) C0 dX6_judge_24 rfl (lt_b rfl) rfl ?_
    refine AW.sub (ls2 := [(0, _), (1, _), (2, _), (3, _)]) [2, 3, 1, 0] rfl ?_
    exact lp (cn + 1) 0 _ _ _ _ _ (by omega) (Nat.zero_le _) rfl h5 rp (Sm.refl _ _) (Or.inl ⟨rfl, rfl⟩)
  · refine a_iconst C0 (-1) dX6_judge_8 rfl ?_
    refine a_iret C0 hr dX6_judge_9 ?_
    exact ⟨_, rfl, (if_neg h5).symm, _, _, rfl, EqX.refl _, EqS.refl _⟩
