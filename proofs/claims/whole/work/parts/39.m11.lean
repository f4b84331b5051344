set_option maxRecDepth 100000 in
set_option maxHeartbeats 4000000 in
theorem c_X6_prove (l : Launch) (G : GE) {ad : Nat → Nat} {M : WM} {O S : RW} {X : WM} {P : WM} {nT mm : Nat} (rp : RP P S nT mm) {x y : Int32} {R : WM} (hR : RowR (X 6) R) (hm : mm + 61 < 2 ^ 31) (hM : M = mkM O S X)  : CT l G yX6_prove cX6_prove 4 (some .int) 3 [.ref (ad 0), .int x, .int y] 14 ad (shM G ad) M (PI (fun r u => r = (if (isTl P x ∧ (1 ≤ y ∧ y ≤ 10)) then y else -1) ∧ ∃ O' S' X', u = mkM O' S' X' ∧ EqS S S' ∧ EqX6 X X' ∧ RowR (X' 6) (if (isTl P x ∧ (1 ≤ y ∧ y ≤ 10)) then prR R P (ix x) (ix y) else R) ∧ O' = if (isTl P x ∧ (1 ≤ y ∧ y ≤ 10)) then upS O 13 y else O)) := by
  refine CT.of (own := RX6) rfl rfl (le_b rfl) fun p e s m args below meth c A C0 hr => ?_
  refine AW.lo (ls2 := [(0, _), (1, _), (2, _)]) rfl ?_
  subst hM
  have lp : ∀ (n : Nat) (i : Nat) (xi : Int32) (P2 : WM) (S2 : RW) (X2 R2 : WM), ix y - i < n → (i ≤ ix y) → (xi = nI i) → ((isTl P x ∧ (1 ≤ y ∧ y ≤ 10))) → (RP P2 S2 nT (mm + i)) → (Sm (ix x) P2 (minsP i P (ix x))) → (∀ c, c ≠ 6 → X2 c = (stX X 3 (cp63 S (X 3))) c) → (RowR (X2 6) R2) → (R2 = prR R P (ix x) i) → AW p l e (rmk 3) s m args below meth c G A 14 ad (shM G ad) 4 0 0 (MQ below (CQ G 14 ad (shM G ad) A (PI (fun r u => r = (if (isTl P x ∧ (1 ≤ y ∧ y ≤ 10)) then y else -1) ∧ ∃ O' S' X', u = mkM O' S' X' ∧ EqS S S' ∧ EqX6 X X' ∧ RowR (X' 6) (if (isTl P x ∧ (1 ≤ y ∧ y ≤ 10)) then prR R P (ix x) (ix y) else R) ∧ O' = if (isTl P x ∧ (1 ≤ y ∧ y ≤ 10)) then upS O 13 y else O))) args s 0 0 A) 35 [(0, .ref (ad 0)), (1, .int x), (2, .int y), (3, .int xi)] [] (mkM O S2 X2) := by
    intro n
    induction n with
    | zero =>
      intro i xi P2 S2 X2 R2 hn
      exact absurd hn (Nat.not_lt_zero _)
    | succ n ih =>
      intro i xi P2 S2 X2 R2 hn hi hxi hc rp3 sm hX2 hR2 eR
      have hv := (isTl_in rp.w).mp hc.1
      have hx : IX x (ix x) nT := IX.v hv
      have hy10 := vp_lt (in_of (n := 10) (by decide) ⟨Int32.le_trans (by decide) hc.2.1, hc.2.2⟩)
      refine a_iload_n C0 3 dX6_prove_35 rfl rfl ?_
      refine a_iload_n C0 2 dX6_prove_36 rfl rfl ?_
      refine a_icmp_ge C0 96 dX6_prove_37 rfl (fun h37 => ?_) (fun h37 => ?_)
      · refine a_aload_n C0 0 dX6_prove_96 rfl rfl ?_
        refine g_X6_16 C0 (lt_b rfl) rfl rfl dX6_prove_97 ?_
        refine a_aload_n C0 0 dX6_prove_100 rfl rfl ?_
        refine g_X6_7 C0 (lt_b rfl) rfl rfl dX6_prove_101 ?_
        refine a_callS _ 2 C0 em_MC31 (c_X6_copyRow l G (ad := fun k => ad (io2 3 1 1 k))) u_c_X6_copyRow u_m_X6_144 u_st_X6_copyRow u_in_X6 hy_X6_copyRow.2 (hRk rfl) rfl rfl (le_b rfl) dX6_prove_104 (k_vo ?_)
        refine AW.cg (M := mkM O (cp63 (X2 3) S2) (stX X2 3 (X2 3))) (fun q _ => by match q with | 0 => rfl | 1 => rfl | q + 2 => rfl) ?_
        refine a_aload_n C0 0 dX6_prove_107 rfl rfl ?_
        refine a_iload_n C0 2 dX6_prove_108 rfl rfl ?_
        refine p_X6_151 C0 (lt_b rfl) rfl (lt_b rfl) rfl rfl dX6_prove_109 ?_
        refine a_iload_n C0 2 dX6_prove_112 rfl rfl ?_
        refine a_iret C0 hr dX6_prove_113 ?_
        have e : i = ix y := Nat.le_antisymm hi (i_geY hxi (Nat.lt_of_le_of_lt hi (ix_lt _)) h37)
        subst e
        rw [mkM_O, stX_id]
        refine ⟨_, rfl, (if_pos hc).symm, _, _, _, rfl, ?_, fun c h3 h4 h6 => ?_, ?_, ?_⟩
        · rw [hX2 3 (by decide)]
          exact EqS.back
        · rw [hX2 c h6]
          exact if_neg h3
        · rw [if_pos hc, ← eR]
          exact hR2
        · rw [if_pos hc]
      · have hlt : i < ix y := i_ltY hxi (Nat.lt_of_le_of_lt hi (ix_lt _)) h37
        have hxx : IX xi i 10 := IX.eqn hxi (by omega) (by decide)
        have p0 := rp0 hxx
        have p1 := rp_ (k := 1) (j := 1) hxx ⟨vq rfl, rfl⟩
        have p2 := rp_ (k := 2) (j := 2) hxx ⟨vq rfl, rfl⟩
        refine a_aload_n C0 0 dX6_prove_40 rfl rfl ?_
        refine a_callV _ 0 C0 EM.refl (c_X6_goesOn l G rp3 (by omega) rfl) u_c_X6_goesOn u_m_X6_201 u_im_X6_goesOn u_se_X6_goesOn u_in_X6 hy_X6_goesOn rfl (lt_b rfl) rfl (hRk rfl) rfl rfl (le_b rfl) dX6_prove_41 (k_v fun u41 q41 => ?_)
        obtain ⟨S4, rfl, rp4⟩ := q41
        refine a_aload_n C0 0 dX6_prove_44 rfl rfl ?_
        refine g_X6_25 C0 (lt_b rfl) rfl rfl dX6_prove_45 ?_
        refine a_iconst C0 3 dX6_prove_48 rfl ?_
        refine a_iload_n C0 3 dX6_prove_49 rfl rfl ?_
        refine a_imul C0 dX6_prove_50 ?_
        refine a_aload_n C0 0 dX6_prove_51 rfl rfl ?_
        refine a_iload_n C0 1 dX6_prove_52 rfl rfl ?_
        refine a_iconst C0 2 dX6_prove_53 rfl ?_
        refine a_callV _ 2 C0 EM.refl (c_X6_its l G (c := 6) rp4 hx ⟨vq rfl, rfl⟩ rfl rfl) u_c_X6_its u_m_X6_167 u_im_X6_its u_se_X6_its u_in_X6 hy_X6_its rfl (lt_b rfl) rfl (hRk rfl) rfl rfl (le_b rfl) dX6_prove_54 (k_ro EM.refl ?_)
        refine a_iast C0 _ (lt_b rfl) (fun _ => rfl) p0.1 p0.2 dX6_prove_57 ?_
        rw [mkM_X (by decide)]
        refine a_aload_n C0 0 dX6_prove_58 rfl rfl ?_
        refine g_X6_25 C0 (lt_b rfl) rfl rfl dX6_prove_59 ?_
        refine a_iconst C0 3 dX6_prove_62 rfl ?_
        refine a_iload_n C0 3 dX6_prove_63 rfl rfl ?_
        refine a_imul C0 dX6_prove_64 ?_
        refine a_iconst C0 1 dX6_prove_65 rfl ?_
        refine a_iadd C0 dX6_prove_66 ?_
        refine a_aload_n C0 0 dX6_prove_67 rfl rfl ?_
        refine a_iload_n C0 1 dX6_prove_68 rfl rfl ?_
        refine a_iconst C0 1 dX6_prove_69 rfl ?_
        refine a_callV _ 2 C0 EM.refl (c_X6_its l G (c := 5) rp4 hx ⟨vq rfl, rfl⟩ rfl rfl) u_c_X6_its u_m_X6_167 u_im_X6_its u_se_X6_its u_in_X6 hy_X6_its rfl (lt_b rfl) rfl (hRk rfl) rfl rfl (le_b rfl) dX6_prove_70 (k_ro EM.refl ?_)
        refine a_iast C0 _ (lt_b rfl) (fun _ => rfl) p1.1 p1.2 dX6_prove_73 ?_
        rw [mkM_X (by decide)]
        refine a_aload_n C0 0 dX6_prove_74 rfl rfl ?_
        refine g_X6_25 C0 (lt_b rfl) rfl rfl dX6_prove_75 ?_
        refine a_iconst C0 3 dX6_prove_78 rfl ?_
        refine a_iload_n C0 3 dX6_prove_79 rfl rfl ?_
        refine a_imul C0 dX6_prove_80 ?_
        refine a_iconst C0 2 dX6_prove_81 rfl ?_
        refine a_iadd C0 dX6_prove_82 ?_
        refine a_aload_n C0 0 dX6_prove_83 rfl rfl ?_
        refine a_iload_n C0 1 dX6_prove_84 rfl rfl ?_
        refine a_iconst C0 3 dX6_prove_85 rfl ?_
        refine a_callV _ 2 C0 EM.refl (c_X6_its l G (c := 7) rp4 hx ⟨vq rfl, rfl⟩ rfl rfl) u_c_X6_its u_m_X6_167 u_im_X6_its u_se_X6_its u_in_X6 hy_X6_its rfl (lt_b rfl) rfl (hRk rfl) rfl rfl (le_b rfl) dX6_prove_86 (k_ro EM.refl ?_)
        refine a_iast C0 _ (lt_b rfl) (fun _ => rfl) p2.1 p2.2 dX6_prove_89 ?_
        rw [mkM_X (by decide)]
        refine a_iinc (ls2 := [(3, _), (0, _), (1, _), (2, _)]) C0 3 1 dX6_prove_90 rfl rfl (lt_b rfl) rfl ?_
        refine a_goto C0 35 dX6_prove_93 rfl ?_
        refine AW.sub (ls2 := [(0, _), (1, _), (2, _), (3, _)]) [1, 2, 3, 0] rfl ?_
        have sm2 := sm.pass hx.lt
        exact ih (i + 1) _ _ _ _ _ (by omega) hlt (by rw [hxi, nI_1]) hc rp4 sm2 (fun c hcc => by
          rw [← hX2 c hcc]
          funext k
          exact (if_neg hcc).trans ((if_neg hcc).trans (if_neg hcc))) (((hR2.up (i := i) (k := 0) (v := passP P2 nT 6 (ix x)) (by omega) (by decide)).up (i := i) (k := 1) (v := passP P2 nT 5 (ix x)) (by omega) (by decide)).up (i := i) (k := 2) (v := passP P2 nT 7 (ix x)) (by omega) (by decide)) (by
          rw [sm2.at, sm2.he, sm2.hd, eR]
          rfl)
  refine a_aload_n C0 0 dX6_prove_0 rfl rfl ?_
  refine a_iload_n C0 1 dX6_prove_1 rfl rfl ?_
  refine a_callV _ 1 C0 EM.refl (c_X6_isOne l G rp  rfl) u_c_X6_isOne u_m_X6_173 u_im_X6_isOne u_se_X6_isOne u_in_X6 hy_X6_isOne rfl (lt_b rfl) rfl (hRk rfl) rfl rfl (le_b rfl) dX6_prove_2 (k_ro EM.refl ?_)
  refine a_if_eqb C0 20 dX6_prove_5 rfl (fun h5 => ?_) (fun h5 => ?_)
  · refine a_iconst C0 (-1) dX6_prove_20 rfl ?_
    refine a_iret C0 hr dX6_prove_21 ?_
    have hc : ¬ (isTl P x ∧ (1 ≤ y ∧ y ≤ 10)) := fun q => by
      first
        | exact h5 q.1
        | exact h17 q.2
    exact ⟨_, rfl, (if_neg hc).symm, _, _, _, rfl, EqS.refl _, fun _ _ _ _ => rfl, by rw [if_neg hc]; exact hR, by rw [if_neg hc]⟩
  · refine a_iload_n C0 2 dX6_prove_8 rfl rfl ?_
    refine a_i2l C0 dX6_prove_9 ?_
    refine a_lconst C0 1 dX6_prove_10 rfl ?_
    refine a_ldc2 C0 dX6_prove_11 u_k_X6_276 ?_
    refine a_callS _ 3 C0 EM.z (c_X6_isIn l G (w2 := 1) (w3 := 10) rfl rfl rfl) u_c_X6_isIn u_m_X6_54 u_st_X6_isIn u_in_X6 hy_X6_isIn.2 (hRk rfl) rfl rfl (le_b rfl) dX6_prove_14 (k_ro EM.z ?_)
    refine a_if_neb C0 22 dX6_prove_17 rfl (fun h17 => ?_) (fun h17 => ?_)
    · refine a_aload_n C0 0 dX6_prove_22 rfl rfl ?_
      refine g_X6_7 C0 (lt_b rfl) rfl rfl dX6_prove_23 ?_
      refine a_aload_n C0 0 dX6_prove_26 rfl rfl ?_
      refine g_X6_16 C0 (lt_b rfl) rfl rfl dX6_prove_27 ?_
      refine a_callS _ 2 C0 em_MC13 (c_X6_copyRow l G (ad := fun k => ad (io2 1 1 3 k))) u_c_X6_copyRow u_m_X6_144 u_st_X6_copyRow u_in_X6 hy_X6_copyRow.2 (hRk rfl) rfl rfl (le_b rfl) dX6_prove_30 (k_vo ?_)
      refine AW.cg (M := mkM O S (stX X 3 (cp63 S (X 3)))) (fun q _ => by match q with | 0 => rfl | 1 => rfl | q + 2 => rfl) ?_
      refine a_iconst C0 0 dX6_prove_33 rfl ?_
      refine a_istore_n (ls2 := [(3, _), (0, _), (1, _), (2, _)]) C0 dX6_prove_34 rfl (lt_b rfl) rfl ?_
      refine AW.sub (ls2 := [(0, _), (1, _), (2, _), (3, _)]) [1, 2, 3, 0] rfl ?_
      exact lp (ix y + 1) 0 _ _ _ _ _ (by omega) (Nat.zero_le _) rfl ⟨h5, h17⟩ rp (Sm.refl _ _) (fun _ _ => rfl) hR rfl
    · refine a_iconst C0 (-1) dX6_prove_20 rfl ?_
      refine a_iret C0 hr dX6_prove_21 ?_
      have hc : ¬ (isTl P x ∧ (1 ≤ y ∧ y ≤ 10)) := fun q => by
        first
          | exact h5 q.1
          | exact h17 q.2
      exact ⟨_, rfl, (if_neg hc).symm, _, _, _, rfl, EqS.refl _, fun _ _ _ _ => rfl, by rw [if_neg hc]; exact hR, by rw [if_neg hc]⟩

/-- the class's Sheets and the model's -/
def RSh (W X : WM) : Prop := ∀ j, j < 4 → X 7 j = W (2 * j) 0 ∧ (W (2 * j) 0 = -1 ∨ (0 ≤ W (2 * j) 0 ∧ W (2 * j) 0 ≤ 3)) ∧ ∃ cn, cn ≤ 40 ∧ W (2 * j) 1 = nI cn ∧ X 8 j = nI cn ∧ ∀ k, k < cn → X 9 (40 * j + k) = W (2 * j + 1) k
theorem np_ {v k : Int32} {j q : Nat} (hv : IX v j 4) (hk : IX k q 40) : IX (40 * v + k) (40 * j + q) 160 := by
  have h1 := hv.lt
  have h2 := hk.lt
  refine IX.eqn ?_ (by omega) (by decide)
  rw [hv.eq (by decide), hk.eq (by decide), show (40 : Int32) = nI 40 from rfl, pk_mul, nI_add]
theorem RSh.cn {W X : WM} {j cn : Nat} (r : RSh W X) (hj : j < 4) (h : W (2 * j) 1 = nI cn) (h40 : cn ≤ 40) : X 8 j = nI cn ∧ ∀ k, k < cn → X 9 (40 * j + k) = W (2 * j + 1) k := by
  obtain ⟨-, -, c2, hc, e1, e2, e3⟩ := r j hj
  have e : c2 = cn := by
    have q := congrArg ix (e1.symm.trans h)
    rw [show ix (nI c2) = c2 from nI_clamp (by omega), show ix (nI cn) = cn from nI_clamp (by omega)] at q
    exact q
  subst e
  exact ⟨e2, e3⟩
/-- a Sheet is missing -/
theorem RSh.mis {W X : WM} {j : Nat} (r : RSh W X) (hj : j < 4) : X 7 j < 0 ↔ W (2 * j) 0 = -1 := by
  obtain ⟨e, h, -⟩ := r j hj
  rw [e]
  constructor
  · intro q
    rcases h with h | h
    · exact h
    · exact absurd q (Int32.not_lt.mpr h.1)
  · intro q
    rw [q]
    decide

set_option maxRecDepth 100000 in
set_option maxHeartbeats 4000000 in
theorem c_X6_isTold (l : Launch) (G : GE) {ad : Nat → Nat} {M : WM} {O S : RW} {X : WM} {P : WM} {nT mm : Nat} (rp : RP P S nT mm) {v x : Int32} {t cn : Nat} {it : Nat → Int32} (hv : vp_in v 4) (hx : IX x t nT) (hnc : X 8 (ix v) = nI cn) (hcn40 : cn ≤ 40) (hit : ∀ k, k < cn → X 9 (40 * ix v + k) = it k) (hm : mm + 61 < 2 ^ 31) (hM : M = mkM O S X)  : CT l G yX6_isTold cX6_isTold 5 (some .boolean) 3 [.ref (ad 0), .int v, .int x] 14 ad (shM G ad) M (PI (fun r u => r = bI (goS it t cn 0 P = true) ∧ ∃ S' X', u = mkM O S' X' ∧ EqX X X' ∧ EqS S S')) := by
  refine CT.of (own := RX6) rfl rfl (le_b rfl) fun p e s m args below meth c A C0 hr => ?_
  refine AW.lo (ls2 := [(0, _), (1, _), (2, _)]) rfl ?_
  subst hM
  have lp : ∀ (n : Nat) (i : Nat) (xi : Int32) (g : Bool) (P2 Q2 : WM) (S2 : RW), cn - i < n → (i ≤ cn) → (xi = nI i) → (RP P2 S2 nT (mm + i)) → (Sm t P2 Q2) → ((if g = true then goS it t (cn - i) i Q2 else false) = goS it t cn 0 P) → AW p l e (rmk 3) s m args below meth c G A 14 ad (shM G ad) 5 0 0 (MQ below (CQ G 14 ad (shM G ad) A (PI (fun r u => r = bI (goS it t cn 0 P = true) ∧ ∃ S' X', u = mkM O S' X' ∧ EqX X X' ∧ EqS S S'))) args s 0 0 A) 16 [(0, .ref (ad 0)), (1, .int v), (2, .int x), (3, .int (bI (g = true))), (4, .int xi)] [] (mkM O S2 (stX X 3 (cp63 S (X 3)))) := by
    intro n
    induction n with
    | zero =>
      intro i xi g P2 Q2 S2 hn
      exact absurd hn (Nat.not_lt_zero _)
    | succ n ih =>
      intro i xi g P2 Q2 S2 hn hi hxi rp3 sm hg
      refine a_iload C0 4 dX6_isTold_16 rfl ?_
      refine a_aload_n C0 0 dX6_isTold_18 rfl rfl ?_
      refine g_X6_31 C0 (lt_b rfl) rfl rfl dX6_isTold_19 ?_
      refine a_iload_n C0 1 dX6_isTold_22 rfl rfl ?_
      refine a_iald C0 _ (lt_b rfl) rfl hv rfl dX6_isTold_23 ?_
      refine a_icmp_ge C0 84 dX6_isTold_24 rfl (fun h24 => ?_) (fun h24 => ?_)
      · refine a_aload_n C0 0 dX6_isTold_84 rfl rfl ?_
        refine g_X6_16 C0 (lt_b rfl) rfl rfl dX6_isTold_85 ?_
        refine a_aload_n C0 0 dX6_isTold_88 rfl rfl ?_
        refine g_X6_7 C0 (lt_b rfl) rfl rfl dX6_isTold_89 ?_
        refine a_callS _ 2 C0 em_MC31 (c_X6_copyRow l G (ad := fun k => ad (io2 3 1 1 k))) u_c_X6_copyRow u_m_X6_144 u_st_X6_copyRow u_in_X6 hy_X6_copyRow.2 (hRk rfl) rfl rfl (le_b rfl) dX6_isTold_92 (k_vo ?_)
        refine AW.cg (M := mkM O (cp63 ((stX X 3 (cp63 S (X 3))) 3) S2) (stX (stX X 3 (cp63 S (X 3))) 3 ((stX X 3 (cp63 S (X 3))) 3))) (fun q _ => by match q with | 0 => rfl | 1 => rfl | q + 2 => rfl) ?_
        refine a_iload_n C0 3 dX6_isTold_95 rfl rfl ?_
        refine a_zret C0 hr (bI_nar _) dX6_isTold_96 ?_
        refine ⟨_, rfl, ?_, _, _, rfl, EqX.tr, EqS.back⟩
        cases g
        · rw [if_neg Bool.false_ne_true] at hg
          rw [← hg]
        · rw [if_pos rfl] at hg
          first
            | exact absurd h28 (by decide)
            | (have hge : i = cn := Nat.le_antisymm hi (i_ge hxi (show (stX X 3 (cp63 S (X 3))) 8 (ix v) = nI cn from hnc) (by omega) (by omega) h24)
               rw [← hg, hge, Nat.sub_self]
               rfl)
      · refine a_iload_n C0 3 dX6_isTold_27 rfl rfl ?_
        refine a_if_eq C0 84 dX6_isTold_28 rfl (fun h28 => ?_) (fun h28 => ?_)
        · refine a_aload_n C0 0 dX6_isTold_84 rfl rfl ?_
          refine g_X6_16 C0 (lt_b rfl) rfl rfl dX6_isTold_85 ?_
          refine a_aload_n C0 0 dX6_isTold_88 rfl rfl ?_
          refine g_X6_7 C0 (lt_b rfl) rfl rfl dX6_isTold_89 ?_
          refine a_callS _ 2 C0 em_MC31 (c_X6_copyRow l G (ad := fun k => ad (io2 3 1 1 k))) u_c_X6_copyRow u_m_X6_144 u_st_X6_copyRow u_in_X6 hy_X6_copyRow.2 (hRk rfl) rfl rfl (le_b rfl) dX6_isTold_92 (k_vo ?_)
          refine AW.cg (M := mkM O (cp63 ((stX X 3 (cp63 S (X 3))) 3) S2) (stX (stX X 3 (cp63 S (X 3))) 3 ((stX X 3 (cp63 S (X 3))) 3))) (fun q _ => by match q with | 0 => rfl | 1 => rfl | q + 2 => rfl) ?_
          refine a_iload_n C0 3 dX6_isTold_95 rfl rfl ?_
          refine a_zret C0 hr (bI_nar _) dX6_isTold_96 ?_
          refine ⟨_, rfl, ?_, _, _, rfl, EqX.tr, EqS.back⟩
          cases g
          · rw [if_neg Bool.false_ne_true] at hg
            rw [← hg]
          · rw [if_pos rfl] at hg
            first
              | exact absurd h28 (by decide)
              | (have hge : i = cn := Nat.le_antisymm hi (i_ge hxi (show (stX X 3 (cp63 S (X 3))) 8 (ix v) = nI cn from hnc) (by omega) (by omega) h24)
                 rw [← hg, hge, Nat.sub_self]
                 rfl)
        · have hlt : i < cn := i_lt hxi (show (stX X 3 (cp63 S (X 3))) 8 (ix v) = nI cn from hnc) (by omega) (by omega) h24
          have pp := np_ (IX.v hv) (IX.eqn hxi (show i < 40 by omega) (by decide))
          have e9 : (stX X 3 (cp63 S (X 3))) 9 (40 * ix v + i) = it i := hit i hlt
          refine a_aload_n C0 0 dX6_isTold_31 rfl rfl ?_
          refine a_callV _ 0 C0 EM.refl (c_X6_goesOn l G rp3 (by omega) rfl) u_c_X6_goesOn u_m_X6_201 u_im_X6_goesOn u_se_X6_goesOn u_in_X6 hy_X6_goesOn rfl (lt_b rfl) rfl (hRk rfl) rfl rfl (le_b rfl) dX6_isTold_32 (k_v fun u32 q32 => ?_)
          obtain ⟨S4, rfl, rp4⟩ := q32
          refine a_aload_n C0 0 dX6_isTold_35 rfl rfl ?_
          refine g_X6_34 C0 (lt_b rfl) rfl rfl dX6_isTold_36 ?_
          refine a_bipush C0 40 dX6_isTold_39 rfl ?_
          refine a_iload_n C0 1 dX6_isTold_41 rfl rfl ?_
          refine a_imul C0 dX6_isTold_42 ?_
          refine a_iload C0 4 dX6_isTold_43 rfl ?_
          refine a_iadd C0 dX6_isTold_45 ?_
          refine a_iald C0 _ (lt_b rfl) rfl pp.1 pp.2 dX6_isTold_46 ?_
          refine a_iconst C0 (-1) dX6_isTold_47 rfl ?_
          refine a_icmp_eq C0 72 dX6_isTold_48 rfl (fun h48 => ?_) (fun h48 => ?_)
          · refine a_iconst C0 1 dX6_isTold_72 rfl ?_
            refine a_goto C0 77 dX6_isTold_73 rfl ?_
            refine a_istore_n (ls2 := [(3, _), (0, _), (1, _), (2, _), (4, _)]) C0 dX6_isTold_77 rfl (lt_b rfl) rfl ?_
            refine a_iinc (ls2 := [(4, _), (3, _), (0, _), (1, _), (2, _)]) C0 4 1 dX6_isTold_78 rfl rfl (lt_b rfl) rfl ?_
            refine a_goto C0 16 dX6_isTold_81 rfl ?_
            refine AW.sub (ls2 := [(0, _), (1, _), (2, _), (3, _), (4, _)]) [2, 3, 4, 1, 0] rfl ?_
            have hgt : g = true := by
              cases g
              · exact absurd rfl h28
              · rfl
            subst hgt
            rw [if_pos rfl] at hg
            have sm2 := sm.pass hx.lt
            first
              | (have ok : it i = -1 ∨ it i = minP Q2 t 6 t := by
                   first
                     | exact Or.inl (e9.symm.trans h48)
                     | exact Or.inr ((e9.symm.trans h69).trans sm2.at)
                 exact ih (i + 1) _ true _ _ _ (by omega) hlt (by rw [hxi, nI_1]) rp4 sm2 (by
                   rw [← hg, show cn - i = (cn - (i + 1)) + 1 by omega, if_pos rfl]
                   exact (if_pos ok).symm))
              | (have no : ¬ (it i = -1 ∨ it i = minP Q2 t 6 t) := by
                   rintro (q | q)
                   · exact h48 (e9.trans q)
                   · exact h69 (e9.trans (q.trans sm2.at.symm))
                 exact ih (i + 1) _ false _ _ _ (by omega) hlt (by rw [hxi, nI_1]) rp4 sm2 (by
                   rw [← hg, show cn - i = (cn - (i + 1)) + 1 by omega, if_neg Bool.false_ne_true]
                   exact (if_neg no).symm))
          · refine a_aload_n C0 0 dX6_isTold_51 rfl rfl ?_
            refine g_X6_34 C0 (lt_b rfl) rfl rfl dX6_isTold_52 ?_
            refine a_bipush C0 40 dX6_isTold_55 rfl ?_
            refine a_iload_n C0 1 dX6_isTold_57 rfl rfl ?_
            refine a_imul C0 dX6_isTold_58 ?_
            refine a_iload C0 4 dX6_isTold_59 rfl ?_
            refine a_iadd C0 dX6_isTold_61 ?_
            refine a_iald C0 _ (lt_b rfl) rfl pp.1 pp.2 dX6_isTold_62 ?_
            refine a_aload_n C0 0 dX6_isTold_63 rfl rfl ?_
            refine a_iload_n C0 2 dX6_isTold_64 rfl rfl ?_
            refine a_iconst C0 2 dX6_isTold_65 rfl ?_
            refine a_callV _ 2 C0 EM.refl (c_X6_its l G (c := 6) rp4 hx ⟨vq rfl, rfl⟩ rfl rfl) u_c_X6_its u_m_X6_167 u_im_X6_its u_se_X6_its u_in_X6 hy_X6_its rfl (lt_b rfl) rfl (hRk rfl) rfl rfl (le_b rfl) dX6_isTold_66 (k_ro EM.refl ?_)
            refine a_icmp_ne C0 76 dX6_isTold_69 rfl (fun h69 => ?_) (fun h69 => ?_)
            · refine a_iconst C0 0 dX6_isTold_76 rfl ?_
              refine a_istore_n (ls2 := [(3, _), (0, _), (1, _), (2, _), (4, _)]) C0 dX6_isTold_77 rfl (lt_b rfl) rfl ?_
              refine a_iinc (ls2 := [(4, _), (3, _), (0, _), (1, _), (2, _)]) C0 4 1 dX6_isTold_78 rfl rfl (lt_b rfl) rfl ?_
              refine a_goto C0 16 dX6_isTold_81 rfl ?_
              refine AW.sub (ls2 := [(0, _), (1, _), (2, _), (3, _), (4, _)]) [2, 3, 4, 1, 0] rfl ?_
              have hgt : g = true := by
                cases g
                · exact absurd rfl h28
                · rfl
              subst hgt
              rw [if_pos rfl] at hg
              have sm2 := sm.pass hx.lt
              first
                | (have ok : it i = -1 ∨ it i = minP Q2 t 6 t := by
                     first
                       | exact Or.inl (e9.symm.trans h48)
                       | exact Or.inr ((e9.symm.trans h69).trans sm2.at)
                   exact ih (i + 1) _ true _ _ _ (by omega) hlt (by rw [hxi, nI_1]) rp4 sm2 (by
                     rw [← hg, show cn - i = (cn - (i + 1)) + 1 by omega, if_pos rfl]
                     exact (if_pos ok).symm))
                | (have no : ¬ (it i = -1 ∨ it i = minP Q2 t 6 t) := by
                     rintro (q | q)
                     · exact h48 (e9.trans q)
                     · exact h69 (e9.trans (q.trans sm2.at.symm))
                   exact ih (i + 1) _ false _ _ _ (by omega) hlt (by rw [hxi, nI_1]) rp4 sm2 (by
                     rw [← hg, show cn - i = (cn - (i + 1)) + 1 by omega, if_neg Bool.false_ne_true]
                     exact (if_neg no).symm))
            · refine a_iconst C0 1 dX6_isTold_72 rfl ?_
              refine a_goto C0 77 dX6_isTold_73 rfl ?_
              refine a_istore_n (ls2 := [(3, _), (0, _), (1, _), (2, _), (4, _)]) C0 dX6_isTold_77 rfl (lt_b rfl) rfl ?_
              refine a_iinc (ls2 := [(4, _), (3, _), (0, _), (1, _), (2, _)]) C0 4 1 dX6_isTold_78 rfl rfl (lt_b rfl) rfl ?_
              refine a_goto C0 16 dX6_isTold_81 rfl ?_
              refine AW.sub (ls2 := [(0, _), (1, _), (2, _), (3, _), (4, _)]) [2, 3, 4, 1, 0] rfl ?_
              have hgt : g = true := by
                cases g
                · exact absurd rfl h28
                · rfl
              subst hgt
              rw [if_pos rfl] at hg
              have sm2 := sm.pass hx.lt
              first
                | (have ok : it i = -1 ∨ it i = minP Q2 t 6 t := by
                     first
                       | exact Or.inl (e9.symm.trans h48)
                       | exact Or.inr ((e9.symm.trans h69).trans sm2.at)
                   exact ih (i + 1) _ true _ _ _ (by omega) hlt (by rw [hxi, nI_1]) rp4 sm2 (by
                     rw [← hg, show cn - i = (cn - (i + 1)) + 1 by omega, if_pos rfl]
                     exact (if_pos ok).symm))
                | (have no : ¬ (it i = -1 ∨ it i = minP Q2 t 6 t) := by
                     rintro (q | q)
                     · exact h48 (e9.trans q)
                     · exact h69 (e9.trans (q.trans sm2.at.symm))
                   exact ih (i + 1) _ false _ _ _ (by omega) hlt (by rw [hxi, nI_1]) rp4 sm2 (by
                     rw [← hg, show cn - i = (cn - (i + 1)) + 1 by omega, if_neg Bool.false_ne_true]
                     exact (if_neg no).symm))
  refine a_aload_n C0 0 dX6_isTold_0 rfl rfl ?_
  refine g_X6_7 C0 (lt_b rfl) rfl rfl dX6_isTold_1 ?_
  refine a_aload_n C0 0 dX6_isTold_4 rfl rfl ?_
  refine g_X6_16 C0 (lt_b rfl) rfl rfl dX6_isTold_5 ?_
  refine a_callS _ 2 C0 em_MC13 (c_X6_copyRow l G (ad := fun k => ad (io2 1 1 3 k))) u_c_X6_copyRow u_m_X6_144 u_st_X6_copyRow u_in_X6 hy_X6_copyRow.2 (hRk rfl) rfl rfl (le_b rfl) dX6_isTold_8 (k_vo ?_)
  refine AW.cg (M := mkM O S (stX X 3 (cp63 S (X 3)))) (fun q _ => by match q with | 0 => rfl | 1 => rfl | q + 2 => rfl) ?_
  refine a_iconst C0 1 dX6_isTold_11 rfl ?_
  refine a_istore_n (ls2 := [(3, _), (0, _), (1, _), (2, _)]) C0 dX6_isTold_12 rfl (lt_b rfl) rfl ?_
  refine a_iconst C0 0 dX6_isTold_13 rfl ?_
  refine a_istore (ls2 := [(4, _), (3, _), (0, _), (1, _), (2, _)]) C0 dX6_isTold_14 (lt_b rfl) rfl ?_
  refine AW.sub (ls2 := [(0, _), (1, _), (2, _), (3, _), (4, _)]) [2, 3, 4, 1, 0] rfl ?_
  exact lp (cn + 1) 0 _ true _ _ _ (by omega) (Nat.zero_le _) rfl rp (Sm.refl _ _) (if_pos rfl)
