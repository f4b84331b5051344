
/-! a tale by itself goes on as it does among the others -/
def Sm (t : Nat) (P Q : WM) : Prop := P 1 = Q 1 ∧ P 2 = Q 2 ∧ P 3 = Q 3 ∧ P 0 7 = Q 0 7 ∧ P 0 9 = Q 0 9 ∧ P 4 t = Q 4 t ∧ P 5 t = Q 5 t ∧ P 6 t = Q 6 t ∧ P 7 t = Q 7 t
theorem Sm.refl (t : Nat) (P : WM) : Sm t P P := ⟨rfl, rfl, rfl, rfl, rfl, rfl, rfl, rfl, rfl⟩
theorem Sm.trans {t : Nat} {P Q R : WM} (a : Sm t P Q) (b : Sm t Q R) : Sm t P R := ⟨a.1.trans b.1, a.2.1.trans b.2.1, a.2.2.1.trans b.2.2.1, a.2.2.2.1.trans b.2.2.2.1, a.2.2.2.2.1.trans b.2.2.2.2.1, a.2.2.2.2.2.1.trans b.2.2.2.2.2.1, a.2.2.2.2.2.2.1.trans b.2.2.2.2.2.2.1, a.2.2.2.2.2.2.2.1.trans b.2.2.2.2.2.2.2.1, a.2.2.2.2.2.2.2.2.trans b.2.2.2.2.2.2.2.2⟩
theorem Sm.at {t : Nat} {P Q : WM} (a : Sm t P Q) : P 6 t = Q 6 t := a.2.2.2.2.2.2.2.1
theorem Sm.he {t : Nat} {P Q : WM} (a : Sm t P Q) : P 5 t = Q 5 t := a.2.2.2.2.2.2.1
theorem Sm.hd {t : Nat} {P Q : WM} (a : Sm t P Q) : P 7 t = Q 7 t := a.2.2.2.2.2.2.2.2
theorem Sm.cools {t : Nat} {P Q : WM} (a : Sm t P Q) : coolsP P t = coolsP Q t := by
  obtain ⟨h1, h2, h3, h7, h9, k4, k5, k6, k7⟩ := a
  unfold coolsP
  rw [h1, k4, k5, k7]
theorem Sm.doors {t : Nat} {P Q : WM} (a : Sm t P Q) : doorsP P t = doorsP Q t := by
  obtain ⟨h1, h2, h3, h7, h9, k4, k5, k6, k7⟩ := a
  unfold doorsP
  rw [k4, h9]
theorem Sm.bring {t : Nat} {P Q : WM} {h : Int32} (a : Sm t P Q) : Sm t (bringP P t h) (bringP Q t h) := by
  obtain ⟨h1, h2, h3, h7, h9, k4, k5, k6, k7⟩ := a
  refine ⟨h1, h2, h3, h7, h9, k4, k5, ?_, ?_⟩
  · show (if t = t then h else P 6 t) = if t = t then h else Q 6 t
    rw [if_pos rfl, if_pos rfl]
  · show (if t = t then P 7 t ||| 1 <<< (h &&& 31) else P 7 t) = if t = t then Q 7 t ||| 1 <<< (h &&& 31) else Q 7 t
    rw [k7]
theorem Sm.bringO {t q : Nat} {P : WM} {h : Int32} (n : t ≠ q) : Sm t (bringP P q h) P := by
  refine ⟨rfl, rfl, rfl, rfl, rfl, rfl, rfl, ?_, ?_⟩
  · exact if_neg n
  · exact if_neg n
theorem Sm.heat {t : Nat} {P Q : WM} {v w : Int32} (a : Sm t P Q) (e : v = w) : Sm t (up2 P 5 t v) (up2 Q 5 t w) := by
  obtain ⟨h1, h2, h3, h7, h9, k4, k5, k6, k7⟩ := a
  refine ⟨h1, h2, h3, h7, h9, k4, ?_, k6, k7⟩
  show (if t = t then v else P 5 t) = if t = t then w else Q 5 t
  rw [if_pos rfl, if_pos rfl, e]
theorem Sm.heatO {t q : Nat} {P : WM} {v : Int32} (n : t ≠ q) : Sm t (up2 P 5 q v) P := ⟨rfl, rfl, rfl, rfl, rfl, rfl, if_neg n, rfl, rfl⟩
theorem Sm.move {t : Nat} : ∀ (n : Nat) {P Q : WM}, Sm t P Q → Sm t (moveP n P t) (moveP n Q t)
  | 0, _, _, a => a
  | n + 1, P, Q, a => by
    unfold moveP
    rw [show P 3 (ix (P 2 (ix (P 6 t)))) = Q 3 (ix (Q 2 (ix (Q 6 t)))) by rw [a.at, a.2.1, a.2.2.1], a.he, show P 2 (ix (P 6 t)) = Q 2 (ix (Q 6 t)) by rw [a.at, a.2.1]]
    split
    · exact Sm.move n a.bring
    · exact a
theorem Sm.moveO {t q : Nat} (h : t ≠ q) : ∀ (n : Nat) {P : WM}, Sm t (moveP n P q) P
  | 0, _ => Sm.refl _ _
  | n + 1, P => by
    unfold moveP
    split
    · exact (Sm.moveO h n).trans (Sm.bringO h)
    · exact Sm.refl _ _
theorem Sm.hand {t : Nat} {P Q : WM} (a : Sm t P Q) : Sm t (handP P t) (handP Q t) := by
  unfold handP
  rw [a.doors]
  have b := Sm.move (ix (doorsP Q t)) a
  refine b.heat ?_
  rw [b.he, b.cools]
  unfold boxP
  rw [b.at, b.2.2.2.1]
theorem Sm.handO {t q : Nat} {P : WM} (h : t ≠ q) : Sm t (handP P q) P := (Sm.heatO h).trans (Sm.moveO h _)
theorem Sm.hands {t : Nat} {P : WM} : ∀ k, Sm t (handsP P k) (if t < k then handP P t else P)
  | 0 => Sm.refl _ _
  | k + 1 => by
    have b := Sm.hands (t := t) (P := P) k
    show Sm t (handP (handsP P k) k) _
    by_cases h : t = k
    · subst h
      rw [if_neg (Nat.lt_irrefl t)] at b
      rw [if_pos (Nat.lt_succ_self t)]
      exact b.hand
    · by_cases h2 : t < k
      · rw [if_pos h2] at b
        rw [if_pos (by omega)]
        exact (Sm.handO h).trans b
      · rw [if_neg h2] at b
        rw [if_neg (by omega)]
        exact (Sm.handO h).trans b
theorem Sm.mi {t : Nat} {P Q : WM} (a : Sm t P Q) : Sm t (up2 P 0 9 (P 0 9 + 1)) (up2 Q 0 9 (Q 0 9 + 1)) := by
  obtain ⟨h1, h2, h3, h7, h9, k4, k5, k6, k7⟩ := a
  refine ⟨h1, h2, h3, h7, ?_, k4, k5, k6, k7⟩
  show P 0 9 + 1 = Q 0 9 + 1
  rw [h9]
theorem Sm.pass {t T : Nat} {P Q : WM} (a : Sm t P Q) (ht : t < T) : Sm t (passP P T) (minP Q t) := by
  have b := Sm.hands (t := t) (P := P) T
  rw [if_pos ht] at b
  exact (b.trans a.hand).mi
theorem Sm.min {t : Nat} {P Q : WM} (a : Sm t P Q) : Sm t (minP P t) (minP Q t) := a.hand.mi
theorem Sm.passes {t T : Nat} {P Q : WM} (a : Sm t P Q) (ht : t < T) : ∀ k, Sm t (passesP k P T) (minsP k Q t)
  | 0 => a
  | k + 1 => (Sm.passes a ht k).pass ht
theorem cp_lt {a b : RW} {k : Nat} (h : k < 63) : cp63 a b k = a k := if_pos h
/-- the row is again what it was -/
def EqS (S Y : RW) : Prop := ∀ k, k < 63 → Y k = S k
theorem EqS.refl (S : RW) : EqS S S := fun _ _ => rfl
theorem EqS.trans {S Y Z : RW} (h : EqS S Y) (k : EqS Y Z) : EqS S Z := fun i hi => (k i hi).trans (h i hi)
theorem EqS.back {S S2 : RW} {X : WM} : EqS S (cp63 (stX X 3 (cp63 S (X 3)) 3) S2) := fun k hk => by
  rw [cp_lt hk]
  show cp63 S (X 3) k = S k
  exact cp_lt hk
theorem EqX.tr {X : WM} {g h : RW} : EqX X (stX (stX X 3 g) 3 h) := (EqX.refl X).st3.st3
theorem hu_r {t : Nat} {q : Int32} : ∀ (f : Nat) (P : WM) (g : Nat), huS f P t q g = -3 ∨ ∃ j, j < g + f ∧ huS f P t q g = nI j
  | 0, _, _ => Or.inl rfl
  | f + 1, P, g => by
    unfold huS
    split
    · exact Or.inr ⟨g, by omega, rfl⟩
    · rcases hu_r f (minP P t) (g + 1) with h | ⟨j, hj, h⟩
      · exact Or.inl h
      · exact Or.inr ⟨j, by omega, h⟩
theorem nI_m3 {j : Nat} (h : j < 2 ^ 31) : ¬ nI j = -3 := fun q => by
  have q2 := congrArg Int32.toInt q
  rw [nI_toInt h] at q2
  have q2 : (j : Int) = -3 := q2
  omega

set_option maxRecDepth 100000 in
set_option maxHeartbeats 4000000 in
theorem c_X6_where (l : Launch) (G : GE) {ad : Nat → Nat} {M : WM} {O S : RW} {X : WM} {P : WM} {nT mm : Nat} (rp : RP P S nT mm) {v y : Int32} (hm : mm + 61 < 2 ^ 31) (hM : M = mkM O S X)  : CT l G yX6_where cX6_where 4 (some .int) 4 [.ref (ad 0), .int v, .int y] 14 ad (shM G ad) M (PI (fun r u => r = (if (isTl P v ∧ (0 ≤ y ∧ y ≤ 60)) then minsP (ix y) P (ix v) 6 (ix v) else -1) ∧ ∃ S' X', u = mkM O S' X' ∧ EqX X X' ∧ EqS S S')) := by
  refine CT.of (own := RX6) rfl rfl (le_b rfl) fun p e s m args below meth c A C0 hr => ?_
  refine AW.lo (ls2 := [(0, _), (1, _), (2, _)]) rfl ?_
  subst hM
  refine a_aload_n C0 0 dX6_where_0 rfl rfl ?_
  refine a_iload_n C0 1 dX6_where_1 rfl rfl ?_
  refine a_callV _ 1 C0 EM.refl (c_X6_isOne l G rp  rfl) u_c_X6_isOne u_m_X6_173 u_im_X6_isOne u_se_X6_isOne u_in_X6 hy_X6_isOne rfl (lt_b rfl) rfl (hRk rfl) rfl rfl (le_b rfl) dX6_where_2 (k_ro EM.refl ?_)
  refine a_if_eqb C0 20 dX6_where_5 rfl (fun h5 => ?_) (fun h5 => ?_)
  · refine a_iconst C0 (-1) dX6_where_20 rfl ?_
    refine a_iret C0 hr dX6_where_21 ?_
    have hc : ¬ (isTl P v ∧ (0 ≤ y ∧ y ≤ 60)) := fun q => by
      first
        | exact h5 q.1
        | exact h17 q.2
    exact ⟨_, rfl, (if_neg hc).symm, _, _, rfl, EqX.refl _, EqS.refl _⟩
  · refine a_iload_n C0 2 dX6_where_8 rfl rfl ?_
    refine a_i2l C0 dX6_where_9 ?_
    refine a_lconst C0 0 dX6_where_10 rfl ?_
    refine a_ldc2 C0 dX6_where_11 u_k_X6_204 ?_
    refine a_callS _ 3 C0 EM.z (c_X6_isIn l G (w2 := 0) (w3 := 60) rfl rfl rfl) u_c_X6_isIn u_m_X6_54 u_st_X6_isIn u_in_X6 hy_X6_isIn.2 (hRk rfl) rfl rfl (le_b rfl) dX6_where_14 (k_ro EM.z ?_)
    refine a_if_neb C0 22 dX6_where_17 rfl (fun h17 => ?_) (fun h17 => ?_)
    · have hv := (isTl_in rp.w).mp h5
      have hx : IX v (ix v) nT := IX.v hv
      have hy := in_of (n := 60) (by decide) h17
      have hyl := vp_lt hy
      have ey := (IX.v hy).eq (by decide)
      refine a_aload_n C0 0 dX6_where_22 rfl rfl ?_
      refine g_X6_7 C0 (lt_b rfl) rfl rfl dX6_where_23 ?_
      refine a_aload_n C0 0 dX6_where_26 rfl rfl ?_
      refine g_X6_16 C0 (lt_b rfl) rfl rfl dX6_where_27 ?_
      refine a_callS _ 2 C0 em_MC13 (c_X6_copyRow l G (ad := fun k => ad (io2 1 1 3 k))) u_c_X6_copyRow u_m_X6_144 u_st_X6_copyRow u_in_X6 hy_X6_copyRow.2 (hRk rfl) rfl rfl (le_b rfl) dX6_where_30 (k_vo ?_)
      refine AW.cg (M := mkM O S (stX X 3 (cp63 S (X 3)))) (fun q _ => by match q with | 0 => rfl | 1 => rfl | q + 2 => rfl) ?_
      refine a_aload_n C0 0 dX6_where_33 rfl rfl ?_
      refine a_iload_n C0 2 dX6_where_34 rfl rfl ?_
      refine a_callV _ 1 C0 EM.refl (c_X6_goes l G rp ey (by omega) rfl) u_c_X6_goes u_m_X6_206 u_im_X6_goes u_se_X6_goes u_in_X6 hy_X6_goes rfl (lt_b rfl) rfl (hRk rfl) rfl rfl (le_b rfl) dX6_where_35 (k_v fun u35 q35 => ?_)
      obtain ⟨S3, rfl, rp3⟩ := q35
      refine a_aload_n C0 0 dX6_where_38 rfl rfl ?_
      refine a_iload_n C0 1 dX6_where_39 rfl rfl ?_
      refine a_iconst C0 2 dX6_where_40 rfl ?_
      refine a_callV _ 2 C0 EM.refl (c_X6_its l G (c := 6) rp3 hx ⟨vq rfl, rfl⟩ rfl rfl) u_c_X6_its u_m_X6_167 u_im_X6_its u_se_X6_its u_in_X6 hy_X6_its rfl (lt_b rfl) rfl (hRk rfl) rfl rfl (le_b rfl) dX6_where_41 (k_ro EM.refl ?_)
      refine a_istore_n (ls2 := [(3, _), (0, _), (1, _), (2, _)]) C0 dX6_where_44 rfl (lt_b rfl) rfl ?_
      refine a_aload_n C0 1 dX6_where_45 rfl rfl ?_
      refine g_X6_16 C0 (lt_b rfl) rfl rfl dX6_where_46 ?_
      refine a_aload_n C0 1 dX6_where_49 rfl rfl ?_
      refine g_X6_7 C0 (lt_b rfl) rfl rfl dX6_where_50 ?_
      refine a_callS _ 2 C0 em_MC31 (c_X6_copyRow l G (ad := fun k => ad (io2 3 1 1 k))) u_c_X6_copyRow u_m_X6_144 u_st_X6_copyRow u_in_X6 hy_X6_copyRow.2 (hRk rfl) rfl rfl (le_b rfl) dX6_where_53 (k_vo ?_)
      refine AW.cg (M := mkM O (cp63 ((stX X 3 (cp63 S (X 3))) 3) S3) (stX (stX X 3 (cp63 S (X 3))) 3 ((stX X 3 (cp63 S (X 3))) 3))) (fun q _ => by match q with | 0 => rfl | 1 => rfl | q + 2 => rfl) ?_
      refine a_iload_n C0 0 dX6_where_56 rfl rfl ?_
      refine a_iret C0 hr dX6_where_57 ?_
      have hc : (isTl P v ∧ (0 ≤ y ∧ y ≤ 60)) := ⟨h5, h17⟩
      exact ⟨_, rfl, (((Sm.refl _ P).passes (vp_lt hv) _).at).trans (if_pos hc).symm, _, _, rfl, EqX.tr, EqS.back⟩
    · refine a_iconst C0 (-1) dX6_where_20 rfl ?_
      refine a_iret C0 hr dX6_where_21 ?_
      have hc : ¬ (isTl P v ∧ (0 ≤ y ∧ y ≤ 60)) := fun q => by
        first
          | exact h5 q.1
          | exact h17 q.2
      exact ⟨_, rfl, (if_neg hc).symm, _, _, rfl, EqX.refl _, EqS.refl _⟩
set_option maxRecDepth 100000 in
set_option maxHeartbeats 4000000 in
theorem c_X6_reachBy (l : Launch) (G : GE) {ad : Nat → Nat} {M : WM} {O S : RW} {X : WM} {P : WM} {nT mm : Nat} (rp : RP P S nT mm) {x y : Int32} {t : Nat} (hx : IX x t nT) (hy : vp_in y 61) (hm : mm + 61 < 2 ^ 31) (hM : M = mkM O S X)  : CT l G yX6_reachBy cX6_reachBy 4 (some .int) 4 [.ref (ad 0), .int x, .int y] 14 ad (shM G ad) M (PI (fun r u => r = bcS (minsP (ix y) P t 7 t) ∧ ∃ S' X', u = mkM O S' X' ∧ EqX X X' ∧ EqS S S')) := by
  refine CT.of (own := RX6) rfl rfl (le_b rfl) fun p e s m args below meth c A C0 hr => ?_
  refine AW.lo (ls2 := [(0, _), (1, _), (2, _)]) rfl ?_
  subst hM
  have hyl := vp_lt hy
  have ey := (IX.v hy).eq (by decide)
  refine a_aload_n C0 0 dX6_reachBy_0 rfl rfl ?_
  refine g_X6_7 C0 (lt_b rfl) rfl rfl dX6_reachBy_1 ?_
  refine a_aload_n C0 0 dX6_reachBy_4 rfl rfl ?_
  refine g_X6_16 C0 (lt_b rfl) rfl rfl dX6_reachBy_5 ?_
  refine a_callS _ 2 C0 em_MC13 (c_X6_copyRow l G (ad := fun k => ad (io2 1 1 3 k))) u_c_X6_copyRow u_m_X6_144 u_st_X6_copyRow u_in_X6 hy_X6_copyRow.2 (hRk rfl) rfl rfl (le_b rfl) dX6_reachBy_8 (k_vo ?_)
  refine AW.cg (M := mkM O S (stX X 3 (cp63 S (X 3)))) (fun q _ => by match q with | 0 => rfl | 1 => rfl | q + 2 => rfl) ?_
  refine a_aload_n C0 0 dX6_reachBy_11 rfl rfl ?_
  refine a_iload_n C0 2 dX6_reachBy_12 rfl rfl ?_
  refine a_callV _ 1 C0 EM.refl (c_X6_goes l G rp ey (by omega) rfl) u_c_X6_goes u_m_X6_206 u_im_X6_goes u_se_X6_goes u_in_X6 hy_X6_goes rfl (lt_b rfl) rfl (hRk rfl) rfl rfl (le_b rfl) dX6_reachBy_13 (k_v fun u13 q13 => ?_)
  obtain ⟨S3, rfl, rp3⟩ := q13
  refine a_aload_n C0 0 dX6_reachBy_16 rfl rfl ?_
  refine a_iload_n C0 1 dX6_reachBy_17 rfl rfl ?_
  refine a_iconst C0 3 dX6_reachBy_18 rfl ?_
  refine a_callV _ 2 C0 EM.refl (c_X6_its l G (c := 7) rp3 hx ⟨vq rfl, rfl⟩ rfl rfl) u_c_X6_its u_m_X6_167 u_im_X6_its u_se_X6_its u_in_X6 hy_X6_its rfl (lt_b rfl) rfl (hRk rfl) rfl rfl (le_b rfl) dX6_reachBy_19 (k_ro EM.refl ?_)
  refine a_callS _ 1 C0 EM.z (c_X6_size l G (rp3.hdw t hx.lt)) u_c_X6_size u_m_X6_170 u_st_X6_size u_in_X6 hy_X6_size.2 (hRk rfl) rfl rfl (le_b rfl) dX6_reachBy_22 (k_ro EM.z ?_)
  refine a_istore_n (ls2 := [(3, _), (0, _), (1, _), (2, _)]) C0 dX6_reachBy_25 rfl (lt_b rfl) rfl ?_
  refine a_aload_n C0 1 dX6_reachBy_26 rfl rfl ?_
  refine g_X6_16 C0 (lt_b rfl) rfl rfl dX6_reachBy_27 ?_
  refine a_aload_n C0 1 dX6_reachBy_30 rfl rfl ?_
  refine g_X6_7 C0 (lt_b rfl) rfl rfl dX6_reachBy_31 ?_
  refine a_callS _ 2 C0 em_MC31 (c_X6_copyRow l G (ad := fun k => ad (io2 3 1 1 k))) u_c_X6_copyRow u_m_X6_144 u_st_X6_copyRow u_in_X6 hy_X6_copyRow.2 (hRk rfl) rfl rfl (le_b rfl) dX6_reachBy_34 (k_vo ?_)
  refine AW.cg (M := mkM O (cp63 ((stX X 3 (cp63 S (X 3))) 3) S3) (stX (stX X 3 (cp63 S (X 3))) 3 ((stX X 3 (cp63 S (X 3))) 3))) (fun q _ => by match q with | 0 => rfl | 1 => rfl | q + 2 => rfl) ?_
  refine a_iload_n C0 0 dX6_reachBy_37 rfl rfl ?_
  refine a_iret C0 hr dX6_reachBy_38 ?_
  exact ⟨_, rfl, congrArg bcS (((Sm.refl _ P).passes hx.lt _).hd), _, _, rfl, EqX.tr, EqS.back⟩
set_option maxRecDepth 100000 in
set_option maxHeartbeats 4000000 in
theorem c_X6_reach (l : Launch) (G : GE) {ad : Nat → Nat} {M : WM} {O S : RW} {X : WM} {P : WM} {nT mm : Nat} (rp : RP P S nT mm) {v y : Int32} (hm : mm + 61 < 2 ^ 31) (hM : M = mkM O S X)  : CT l G yX6_reach cX6_reach 3 (some .int) 5 [.ref (ad 0), .int v, .int y] 14 ad (shM G ad) M (PI (fun r u => r = (if (isTl P v ∧ (0 ≤ y ∧ y ≤ 60)) then bcS (minsP (ix y) P (ix v) 7 (ix v)) else -1) ∧ ∃ S' X', u = mkM O S' X' ∧ EqX X X' ∧ EqS S S')) := by
  refine CT.of (own := RX6) rfl rfl (le_b rfl) fun p e s m args below meth c A C0 hr => ?_
  refine AW.lo (ls2 := [(0, _), (1, _), (2, _)]) rfl ?_
  subst hM
  refine a_aload_n C0 0 dX6_reach_0 rfl rfl ?_
  refine a_iload_n C0 1 dX6_reach_1 rfl rfl ?_
  refine a_callV _ 1 C0 EM.refl (c_X6_isOne l G rp  rfl) u_c_X6_isOne u_m_X6_173 u_im_X6_isOne u_se_X6_isOne u_in_X6 hy_X6_isOne rfl (lt_b rfl) rfl (hRk rfl) rfl rfl (le_b rfl) dX6_reach_2 (k_ro EM.refl ?_)
  refine a_if_eqb C0 29 dX6_reach_5 rfl (fun h5 => ?_) (fun h5 => ?_)
  · refine a_iconst C0 (-1) dX6_reach_29 rfl ?_
    refine a_iret C0 hr dX6_reach_30 ?_
    first
      | (have hc : (isTl P v ∧ (0 ≤ y ∧ y ≤ 60)) := ⟨h5, h17⟩
         exact ⟨_, rfl, (if_pos hc).symm, _, _, rfl, hX, rp3⟩)
      | (have hc : ¬ (isTl P v ∧ (0 ≤ y ∧ y ≤ 60)) := fun q => by
           first
             | exact h5 q.1
             | exact h17 q.2
         exact ⟨_, rfl, (if_neg hc).symm, _, _, rfl, EqX.refl _, EqS.refl _⟩)
  · refine a_iload_n C0 2 dX6_reach_8 rfl rfl ?_
    refine a_i2l C0 dX6_reach_9 ?_
    refine a_lconst C0 0 dX6_reach_10 rfl ?_
    refine a_ldc2 C0 dX6_reach_11 u_k_X6_204 ?_
    refine a_callS _ 3 C0 EM.z (c_X6_isIn l G (w2 := 0) (w3 := 60) rfl rfl rfl) u_c_X6_isIn u_m_X6_54 u_st_X6_isIn u_in_X6 hy_X6_isIn.2 (hRk rfl) rfl rfl (le_b rfl) dX6_reach_14 (k_ro EM.z ?_)
    refine a_if_eqb C0 29 dX6_reach_17 rfl (fun h17 => ?_) (fun h17 => ?_)
    · refine a_iconst C0 (-1) dX6_reach_29 rfl ?_
      refine a_iret C0 hr dX6_reach_30 ?_
      first
        | (have hc : (isTl P v ∧ (0 ≤ y ∧ y ≤ 60)) := ⟨h5, h17⟩
           exact ⟨_, rfl, (if_pos hc).symm, _, _, rfl, hX, rp3⟩)
        | (have hc : ¬ (isTl P v ∧ (0 ≤ y ∧ y ≤ 60)) := fun q => by
             first
               | exact h5 q.1
               | exact h17 q.2
           exact ⟨_, rfl, (if_neg hc).symm, _, _, rfl, EqX.refl _, EqS.refl _⟩)
    · have hv := (isTl_in rp.w).mp h5
      have hx : IX v (ix v) nT := IX.v hv
      refine a_aload_n C0 0 dX6_reach_20 rfl rfl ?_
      refine a_iload_n C0 1 dX6_reach_21 rfl rfl ?_
      refine a_iload_n C0 2 dX6_reach_22 rfl rfl ?_
      refine a_callV _ 2 C0 EM.refl (c_X6_reachBy l G rp hx (in_of (n := 60) (by decide) h17) hm rfl) u_c_X6_reachBy u_m_X6_237 u_im_X6_reachBy u_se_X6_reachBy u_in_X6 hy_X6_reachBy rfl (lt_b rfl) rfl (hRk rfl) rfl rfl (le_b rfl) dX6_reach_23 (k_i fun r23 u23 q23 => ?_)
      obtain ⟨rfl, S3, X3, rfl, hX, rp3⟩ := q23
      refine a_goto C0 30 dX6_reach_26 rfl ?_
      refine a_iret C0 hr dX6_reach_30 ?_
      first
        | (have hc : (isTl P v ∧ (0 ≤ y ∧ y ≤ 60)) := ⟨h5, h17⟩
           exact ⟨_, rfl, (if_pos hc).symm, _, _, rfl, hX, rp3⟩)
        | (have hc : ¬ (isTl P v ∧ (0 ≤ y ∧ y ≤ 60)) := fun q => by
             first
               | exact h5 q.1
               | exact h17 q.2
           exact ⟨_, rfl, (if_neg hc).symm, _, _, rfl, EqX.refl _, EqS.refl _⟩)
set_option maxRecDepth 100000 in
set_option maxHeartbeats 4000000 in
theorem c_X6_heardBy (l : Launch) (G : GE) {ad : Nat → Nat} {M : WM} {O S : RW} {X : WM} {P : WM} {nT mm : Nat} (rp : RP P S nT mm) {x q y : Int32} {t yn : Nat} (hx : IX x t nT) (hy : y = nI yn) (hy60 : yn ≤ 60) (hm : mm + 61 < 2 ^ 31) (hM : M = mkM O S X)  : CT l G yX6_heardBy cX6_heardBy 5 (some .int) 3 [.ref (ad 0), .int x, .int q, .int y] 14 ad (shM G ad) M (PI (fun r u => r = (if huS (yn + 1) P t q 0 = -3 then nI (yn + 1) else huS (yn + 1) P t q 0) ∧ ∃ S' X', u = mkM O S' X' ∧ EqX X X' ∧ EqS S S')) := by
  refine CT.of (own := RX6) rfl rfl (le_b rfl) fun p e s m args below meth c A C0 hr => ?_
  refine AW.lo (ls2 := [(0, _), (1, _), (2, _), (3, _)]) rfl ?_
  subst hM
  have lp : ∀ (n : Nat) (i : Nat) (xi : Int32) (P2 Q2 : WM) (S2 : RW), yn + 1 - i < n → (i ≤ yn + 1) → (xi = nI i) → (RP P2 S2 nT (mm + i)) → (Sm t P2 Q2) → (huS (yn + 1 - i) Q2 t q i = huS (yn + 1) P t q 0) → AW p l e (rmk 3) s m args below meth c G A 14 ad (shM G ad) 5 0 0 (MQ below (CQ G 14 ad (shM G ad) A (PI (fun r u => r = (if huS (yn + 1) P t q 0 = -3 then nI (yn + 1) else huS (yn + 1) P t q 0) ∧ ∃ S' X', u = mkM O S' X' ∧ EqX X X' ∧ EqS S S'))) args s 0 0 A) 14 [(0, .ref (ad 0)), (1, .int x), (2, .int q), (3, .int y), (4, .int xi)] [] (mkM O S2 (stX X 3 (cp63 S (X 3)))) := by
    intro n
    induction n with
    | zero =>
      intro i xi P2 Q2 S2 hn
      exact absurd hn (Nat.not_lt_zero _)
    | succ n ih =>
      intro i xi P2 Q2 S2 hn hi hxi rp3 sm hmv
      refine a_iload C0 4 dX6_heardBy_14 rfl ?_
      refine a_iload_n C0 3 dX6_heardBy_16 rfl rfl ?_
      refine a_icmp_gt C0 42 dX6_heardBy_17 rfl (fun h17 => ?_) (fun h17 => ?_)
      · refine a_aload_n C0 0 dX6_heardBy_42 rfl rfl ?_
        refine g_X6_16 C0 (lt_b rfl) rfl rfl dX6_heardBy_43 ?_
        refine a_aload_n C0 0 dX6_heardBy_46 rfl rfl ?_
        refine g_X6_7 C0 (lt_b rfl) rfl rfl dX6_heardBy_47 ?_
        refine a_callS _ 2 C0 em_MC31 (c_X6_copyRow l G (ad := fun k => ad (io2 3 1 1 k))) u_c_X6_copyRow u_m_X6_144 u_st_X6_copyRow u_in_X6 hy_X6_copyRow.2 (hRk rfl) rfl rfl (le_b rfl) dX6_heardBy_50 (k_vo ?_)
        refine AW.cg (M := mkM O (cp63 ((stX X 3 (cp63 S (X 3))) 3) S2) (stX (stX X 3 (cp63 S (X 3))) 3 ((stX X 3 (cp63 S (X 3))) 3))) (fun q _ => by match q with | 0 => rfl | 1 => rfl | q + 2 => rfl) ?_
        refine a_iload C0 4 dX6_heardBy_53 rfl ?_
        refine a_iret C0 hr dX6_heardBy_55 ?_
        refine ⟨_, rfl, ?_, _, _, rfl, EqX.tr, EqS.back⟩
        rw [← hmv]
        first
          | (have hge : yn < i := by
               rw [hxi, hy] at h17
               exact (nI_ltI (by omega) (by omega)).mp h17
             rw [show yn + 1 - i = 0 by omega, hxi, show i = yn + 1 by omega]
             exact (if_pos rfl).symm)
          | (have e : huS (yn + 1 - i) Q2 t q i = nI i := by
               rw [show yn + 1 - i = (yn + 1 - (i + 1)) + 1 by omega]
               refine if_pos ?_
               rw [← sm.hd]
               exact h29
             rw [e, if_neg (nI_m3 (by omega))]
             exact hxi)
      · have hle : i ≤ yn := Nat.not_lt.mp fun z => h17 (by rw [hxi, hy]; exact nI_lt z (by omega))
        refine a_aload_n C0 0 dX6_heardBy_20 rfl rfl ?_
        refine a_iload_n C0 1 dX6_heardBy_21 rfl rfl ?_
        refine a_iconst C0 3 dX6_heardBy_22 rfl ?_
        refine a_callV _ 2 C0 EM.refl (c_X6_its l G (c := 7) rp3 hx ⟨vq rfl, rfl⟩ rfl rfl) u_c_X6_its u_m_X6_167 u_im_X6_its u_se_X6_its u_in_X6 hy_X6_its rfl (lt_b rfl) rfl (hRk rfl) rfl rfl (le_b rfl) dX6_heardBy_23 (k_ro EM.refl ?_)
        refine a_iload_n C0 2 dX6_heardBy_26 rfl rfl ?_
        refine a_iand C0 dX6_heardBy_27 ?_
        refine a_iload_n C0 2 dX6_heardBy_28 rfl rfl ?_
        refine a_icmp_eq C0 42 dX6_heardBy_29 rfl (fun h29 => ?_) (fun h29 => ?_)
        · refine a_aload_n C0 0 dX6_heardBy_42 rfl rfl ?_
          refine g_X6_16 C0 (lt_b rfl) rfl rfl dX6_heardBy_43 ?_
          refine a_aload_n C0 0 dX6_heardBy_46 rfl rfl ?_
          refine g_X6_7 C0 (lt_b rfl) rfl rfl dX6_heardBy_47 ?_
          refine a_callS _ 2 C0 em_MC31 (c_X6_copyRow l G (ad := fun k => ad (io2 3 1 1 k))) u_c_X6_copyRow u_m_X6_144 u_st_X6_copyRow u_in_X6 hy_X6_copyRow.2 (hRk rfl) rfl rfl (le_b rfl) dX6_heardBy_50 (k_vo ?_)
          refine AW.cg (M := mkM O (cp63 ((stX X 3 (cp63 S (X 3))) 3) S2) (stX (stX X 3 (cp63 S (X 3))) 3 ((stX X 3 (cp63 S (X 3))) 3))) (fun q _ => by match q with | 0 => rfl | 1 => rfl | q + 2 => rfl) ?_
          refine a_iload C0 4 dX6_heardBy_53 rfl ?_
          refine a_iret C0 hr dX6_heardBy_55 ?_
          refine ⟨_, rfl, ?_, _, _, rfl, EqX.tr, EqS.back⟩
          rw [← hmv]
          first
            | (have hge : yn < i := by
                 rw [hxi, hy] at h17
                 exact (nI_ltI (by omega) (by omega)).mp h17
               rw [show yn + 1 - i = 0 by omega, hxi, show i = yn + 1 by omega]
               exact (if_pos rfl).symm)
            | (have e : huS (yn + 1 - i) Q2 t q i = nI i := by
                 rw [show yn + 1 - i = (yn + 1 - (i + 1)) + 1 by omega]
                 refine if_pos ?_
                 rw [← sm.hd]
                 exact h29
               rw [e, if_neg (nI_m3 (by omega))]
               exact hxi)
        · refine a_aload_n C0 0 dX6_heardBy_32 rfl rfl ?_
          refine a_callV _ 0 C0 EM.refl (c_X6_goesOn l G rp3 (by omega) rfl) u_c_X6_goesOn u_m_X6_201 u_im_X6_goesOn u_se_X6_goesOn u_in_X6 hy_X6_goesOn rfl (lt_b rfl) rfl (hRk rfl) rfl rfl (le_b rfl) dX6_heardBy_33 (k_v fun u33 q33 => ?_)
          obtain ⟨S4, rfl, rp4⟩ := q33
          refine a_iinc (ls2 := [(4, _), (0, _), (1, _), (2, _), (3, _)]) C0 4 1 dX6_heardBy_36 rfl rfl (lt_b rfl) rfl ?_
          refine a_goto C0 14 dX6_heardBy_39 rfl ?_
          refine AW.sub (ls2 := [(0, _), (1, _), (2, _), (3, _), (4, _)]) [1, 2, 3, 4, 0] rfl ?_
          exact ih (i + 1) _ _ _ _ (by omega) (by omega) (by rw [hxi, nI_1]) rp4 (sm.pass hx.lt) (by
            rw [← hmv, show yn + 1 - i = (yn + 1 - (i + 1)) + 1 by omega]
            refine (if_neg ?_).symm
            rw [← sm.hd]
            exact h29)
  refine a_aload_n C0 0 dX6_heardBy_0 rfl rfl ?_
  refine g_X6_7 C0 (lt_b rfl) rfl rfl dX6_heardBy_1 ?_
  refine a_aload_n C0 0 dX6_heardBy_4 rfl rfl ?_
  refine g_X6_16 C0 (lt_b rfl) rfl rfl dX6_heardBy_5 ?_
  refine a_callS _ 2 C0 em_MC13 (c_X6_copyRow l G (ad := fun k => ad (io2 1 1 3 k))) u_c_X6_copyRow u_m_X6_144 u_st_X6_copyRow u_in_X6 hy_X6_copyRow.2 (hRk rfl) rfl rfl (le_b rfl) dX6_heardBy_8 (k_vo ?_)
  refine AW.cg (M := mkM O S (stX X 3 (cp63 S (X 3)))) (fun q _ => by match q with | 0 => rfl | 1 => rfl | q + 2 => rfl) ?_
  refine a_iconst C0 0 dX6_heardBy_11 rfl ?_
  refine a_istore (ls2 := [(4, _), (0, _), (1, _), (2, _), (3, _)]) C0 dX6_heardBy_12 (lt_b rfl) rfl ?_
  refine AW.sub (ls2 := [(0, _), (1, _), (2, _), (3, _), (4, _)]) [1, 2, 3, 4, 0] rfl ?_
  exact lp (yn + 2) 0 _ _ _ _ (by omega) (Nat.zero_le _) rfl rp (Sm.refl _ _) rfl
