
theorem topL_eq {law : Int32} (h : 0 ≤ law ∧ law ≤ 3) : topL law = if law < 2 then 9 else 99 := by
  obtain ⟨j, hj, rfl⟩ := vp_in_of (in_of (n := 3) (by decide) h) (by decide)
  have : ∀ j, j < 4 → topL (nI j) = if nI j < 2 then 9 else 99 := by decide +kernel
  exact this j hj
theorem RP.add {P : WM} {S : RW} {T mm : Nat} {k h a : Int32} (r : RP P S T mm) (hT : T < 8) (hk : vp_in k 6) (hh : vp_in h 100) (ha : vp_in a 8) : RP (addP P T k h a) (upS (upS (upS (upS (upS S (31 + 4 * T + 0) k) (31 + 4 * T + 1) h) (31 + 4 * T + 2) a) (31 + 4 * T + 3) (1 <<< (a &&& 31))) 0 (S 0 + 1)) (T + 1) mm := by
  have ne : ∀ q, q < 63 → q ≠ 0 → (∀ j, j < 4 → q ≠ 31 + 4 * T + j) → upS (upS (upS (upS (upS S (31 + 4 * T + 0) k) (31 + 4 * T + 1) h) (31 + 4 * T + 2) a) (31 + 4 * T + 3) (1 <<< (a &&& 31))) 0 (S 0 + 1) q = S q := fun q _ h0 hj => by
    rw [up_ne h0, up_ne (hj 3 (by decide)), up_ne (hj 2 (by decide)), up_ne (hj 1 (by decide)), up_ne (hj 0 (by decide))]
  have h1 : vp_in (1 <<< (a &&& 31) : Int32) 256 := by
    have q := or_in' (x := 0) (vp_in_nI (n := 0) (by decide) (by decide)) ha
    rw [Int32.zero_or] at q
    exact q
  have wf : ∀ (c n : Nat) (v : Int32) (_ : ∀ t, t < T → vp_in (P c t) n) (_ : vp_in v n) (t : Nat), t < T + 1 → vp_in (if t = T then v else P c t) n := by
    intro c n v hc hv t ht
    split
    · exact hv
    · exact hc t (by omega)
  exact RP.mk
    (n1 := by
      show P 0 8 + 1 = _
      rw [r.n1, nI_1])
    (n2 := by
      show S 0 + 1 = _
      rw [r.n2, nI_1])
    (t8 := hT)
    (m1 := r.m1)
    (m2 := (ne 1 (by decide) (by decide) (fun j hj => by omega)).trans r.m2)
    (z := (ne 2 (by decide) (by decide) (fun j hj => by omega)).trans r.z)
    (law := fun i hi => (ne _ (by omega) (by omega) (fun j hj => by omega)).trans (r.law i hi))
    (fr := fun i hi => (ne _ (by omega) (by omega) (fun j hj => by omega)).trans (r.fr i hi))
    (ta := fun i hi => (ne _ (by omega) (by omega) (fun j hj => by omega)).trans (r.ta i hi))
    (bx := fun i hi => (ne _ (by omega) (by omega) (fun j hj => by omega)).trans (r.bx i hi))
    (of := fun t j ht hj => by
      by_cases e : t = T
      · subst e
        match j, hj with
        | 0, _ =>
          rw [up_ne (by omega), up_ne (by omega), up_ne (by omega), up_ne (by omega), up_eq]
          exact (if_pos rfl).symm
        | 1, _ =>
          rw [up_ne (by omega), up_ne (by omega), up_ne (by omega), up_eq]
          exact (if_pos rfl).symm
        | 2, _ =>
          rw [up_ne (by omega), up_ne (by omega), up_eq]
          exact (if_pos rfl).symm
        | 3, _ =>
          rw [up_ne (by omega), up_eq]
          exact (if_pos rfl).symm
      · rw [ne _ (by omega) (by omega) (fun j2 hj2 => by omega), r.of t j (by omega) hj]
        match j, hj with
        | 0, _ => exact (if_neg e).symm
        | 1, _ => exact (if_neg e).symm
        | 2, _ => exact (if_neg e).symm
        | 3, _ => exact (if_neg e).symm)
    (frw := r.frw)
    (atw := wf 6 8 a r.atw ha)
    (hew := wf 5 100 h r.hew hh)
    (hdw := wf 7 256 _ r.hdw h1)
    (kdw := wf 4 6 k r.kdw hk)
    (bxw := r.bxw)
    (lw := r.lw)
theorem RP.bx' {P : WM} {S : RW} {T mm q : Nat} {nb v : Int32} (r : RP P S T mm) (hq : q < 8) (hb : vp_in nb 256) (h : ∀ k, k < 8 → (nb >>> (nI k &&& 31)) &&& 1 = if k = q then v else (P 0 7 >>> (nI k &&& 31)) &&& 1) : RP (up2 P 0 7 nb) (upS S (23 + q) v) T mm := by
  have t8 := r.t8
  exact RP.mk
    (n1 := r.n1)
    (n2 := (up_ne (by omega)).trans r.n2)
    (t8 := r.t8)
    (m1 := r.m1)
    (m2 := (up_ne (by omega)).trans r.m2)
    (z := (up_ne (by omega)).trans r.z)
    (law := fun i hi => (up_ne (by omega)).trans (r.law i hi))
    (fr := fun i hi => (up_ne (by omega)).trans (r.fr i hi))
    (ta := fun i hi => (up_ne (by omega)).trans (r.ta i hi))
    (bx := fun i hi => by
      show _ = (nb >>> (nI i &&& 31)) &&& 1
      rw [h i hi]
      by_cases e : i = q
      · subst e
        rw [if_pos rfl, up_eq]
      · rw [if_neg e, up_ne (by omega), r.bx i hi])
    (of := fun t j ht hj => (up_ne (by omega)).trans ((r.of t j ht hj).trans (up2_at (by omega)).symm))
    (frw := r.frw)
    (atw := r.atw)
    (hew := r.hew)
    (hdw := r.hdw)
    (kdw := r.kdw)
    (bxw := hb)
    (lw := r.lw)
theorem bxn_t : ∀ a, a < 256 → ∀ h, h < 8 → (decide (nI a &&& (1 <<< (nI h &&& 31) ^^^ -1) = nI (a &&& (255 - 2 ^ h))) && decide ((a ||| 2 ^ h) < 256) && decide ((a &&& (255 - 2 ^ h)) < 256)) = true := by decide +kernel
theorem bit_n {a k : Nat} (ha : a < 256) (hk : k < 8) : (nI a >>> (nI k &&& 31)) &&& 1 = if a.testBit k = true then 1 else 0 := by
  cases e : a.testBit k
  · exact (lp_nb ha hk).mpr e
  · rcases bit_01 (vp_in_nI ha (by decide)) (vp_in_nI hk (by decide)) with q | q
    · rw [(lp_nb ha hk).mp q] at e
      cases e
    · exact q
theorem msk_t : ∀ h, h < 8 → ∀ k, k < 8 → (255 - 2 ^ h).testBit k = !decide (k = h) := by decide +kernel
theorem bx_on {b : Int32} {q : Nat} (hb : vp_in b 256) (hq : q < 8) : vp_in (b ||| 1 <<< (nI q &&& 31)) 256 ∧ ∀ k, k < 8 → ((b ||| 1 <<< (nI q &&& 31)) >>> (nI k &&& 31)) &&& 1 = if k = q then 1 else (b >>> (nI k &&& 31)) &&& 1 := by
  obtain ⟨a, ha, rfl⟩ := vp_in_of hb (by decide)
  have t := bxn_t a ha q hq
  rw [Bool.and_eq_true, Bool.and_eq_true, decide_eq_true_iff, decide_eq_true_iff, decide_eq_true_iff] at t
  refine ⟨or_in' hb (vp_in_nI hq (by decide)), fun k hk => ?_⟩
  rw [lp_or a ha q hq, bit_n t.1.2 hk, bit_n ha hk, lp_tb]
  by_cases e : k = q
  · subst e
    rw [decide_eq_true rfl, Bool.or_true, if_pos rfl, if_pos rfl]
  · rw [decide_eq_false fun z => e z.symm, Bool.or_false, if_neg e]
theorem bx_off {b : Int32} {q : Nat} (hb : vp_in b 256) (hq : q < 8) : vp_in (b &&& (1 <<< (nI q &&& 31) ^^^ -1)) 256 ∧ ∀ k, k < 8 → ((b &&& (1 <<< (nI q &&& 31) ^^^ -1)) >>> (nI k &&& 31)) &&& 1 = if k = q then 0 else (b >>> (nI k &&& 31)) &&& 1 := by
  obtain ⟨a, ha, rfl⟩ := vp_in_of hb (by decide)
  have t := bxn_t a ha q hq
  rw [Bool.and_eq_true, Bool.and_eq_true, decide_eq_true_iff, decide_eq_true_iff, decide_eq_true_iff] at t
  rw [t.1.1]
  refine ⟨vp_in_nI t.2 (by decide), fun k hk => ?_⟩
  rw [bit_n t.2 hk, bit_n ha hk, Nat.testBit_and, msk_t q hq k hk]
  by_cases e : k = q
  · subst e
    rw [decide_eq_true rfl, Bool.not_true, Bool.and_false, if_neg Bool.false_ne_true, if_pos rfl]
  · rw [decide_eq_false e, Bool.not_false, Bool.and_true, if_neg e]
theorem in_2of {v : Int32} {a : Nat} {n : Nat} (e : nI a = nI a) (h : 0 ≤ v ∧ v ≤ nI n) (hn : n < 2 ^ 31) : vp_in v (n + 1) := in_of hn h
theorem orP_in {g : Nat → Int32} : ∀ n, (∀ t, t < n → vp_in (g t) 8) → vp_in (orP (fun k => 1 <<< (g k &&& 31)) n) 256
  | 0, _ => by
    exact vp_in_nI (n := 0) (by decide) (by decide)
  | n + 1, h => or_in' (orP_in n fun t ht => h t (by omega)) (h n (by omega))
theorem orC_in {c : Nat → Bool} : ∀ n, n ≤ 8 → vp_in (orC c bitI n) 256
  | 0, _ => by
    exact vp_in_nI (n := 0) (by decide) (by decide)
  | n + 1, h => by
    show vp_in (if c n = true then orC c bitI n ||| bitI n else orC c bitI n) 256
    split
    · exact or_in' (orC_in n (by omega)) (vp_in_nI (by omega) (by decide))
    · exact orC_in n (by omega)

set_option maxRecDepth 100000 in
set_option maxHeartbeats 4000000 in
theorem c_X6_lawOf (l : Launch) (G : GE) {ad : Nat → Nat} {M : WM} {O S : RW} {X : WM} {P : WM} {nT mm : Nat} (rp : RP P S nT mm) {law : Int32} (hM : M = mkM O S X)  : CT l G yX6_lawOf cX6_lawOf 2 (some .int) 1 [.ref (ad 0), .int law] 14 ad (shM G ad) M (PI (fun r u => r = (if 0 ≤ law ∧ law ≤ 3 then P 1 (ix law) else -1) ∧ u = mkM O S X)) := by
  refine CT.of (own := RX6) rfl rfl (le_b rfl) fun p e s m args below meth c A C0 hr => ?_
  refine AW.lo (ls2 := [(0, _), (1, _)]) rfl ?_
  subst hM
  refine a_iload_n C0 1 dX6_lawOf_0 rfl rfl ?_
  refine a_i2l C0 dX6_lawOf_1 ?_
  refine a_lconst C0 0 dX6_lawOf_2 rfl ?_
  refine a_ldc2 C0 dX6_lawOf_3 u_k_X6_154 ?_
  refine a_callS _ 3 C0 EM.z (c_X6_isIn l G (w2 := 0) (w3 := 3) rfl rfl rfl) u_c_X6_isIn u_m_X6_54 u_st_X6_isIn u_in_X6 hy_X6_isIn.2 (hRk rfl) rfl rfl (le_b rfl) dX6_lawOf_6 (k_ro EM.z ?_)
  refine a_if_eqb C0 23 dX6_lawOf_9 rfl (fun h9 => ?_) (fun h9 => ?_)
  · refine a_iconst C0 (-1) dX6_lawOf_23 rfl ?_
    refine a_iret C0 hr dX6_lawOf_24 ?_
    first
      | exact rt_ (by rw [if_pos h9]; exact rp.law _ (vp_lt hL))
      | exact rt_ (if_neg h9).symm
  · have hL := in_of (n := 3) (by decide) h9
    have hx := ((IX.v hL).pl 3 (bb := 3) rfl (by decide)).le (n2 := 63) (by decide)
    refine a_aload_n C0 0 dX6_lawOf_12 rfl rfl ?_
    refine g_X6_7 C0 (lt_b rfl) rfl rfl dX6_lawOf_13 ?_
    refine a_iconst C0 3 dX6_lawOf_16 rfl ?_
    refine a_iload_n C0 1 dX6_lawOf_17 rfl rfl ?_
    refine a_iadd C0 dX6_lawOf_18 ?_
    refine a_iald C0 _ (lt_b rfl) rfl hx.1 hx.2 dX6_lawOf_19 ?_
    refine a_goto C0 24 dX6_lawOf_20 rfl ?_
    refine a_iret C0 hr dX6_lawOf_24 ?_
    first
      | exact rt_ (by rw [if_pos h9]; exact rp.law _ (vp_lt hL))
      | exact rt_ (if_neg h9).symm
set_option maxRecDepth 100000 in
set_option maxHeartbeats 4000000 in
theorem c_X6_set (l : Launch) (G : GE) {ad : Nat → Nat} {M : WM} {O S : RW} {X : WM} {P : WM} {nT mm : Nat} (rp : RP P S nT mm) {law v : Int32} (hM : M = mkM O S X)  : CT l G yX6_set cX6_set 3 (some .int) 1 [.ref (ad 0), .int law, .int v] 14 ad (shM G ad) M (PI (fun r u => r = (if ((0 ≤ law ∧ law ≤ 3) ∧ (0 ≤ v ∧ v ≤ topL law)) then P 1 (ix law) else -1) ∧ ∃ S', u = mkM O S' X ∧ RP (if ((0 ≤ law ∧ law ≤ 3) ∧ (0 ≤ v ∧ v ≤ topL law)) then up2 P 1 (ix law) v else P) S' nT mm)) := by
  refine CT.of (own := RX6) rfl rfl (le_b rfl) fun p e s m args below meth c A C0 hr => ?_
  refine AW.lo (ls2 := [(0, _), (1, _), (2, _)]) rfl ?_
  subst hM
  refine a_iload_n C0 1 dX6_set_0 rfl rfl ?_
  refine a_i2l C0 dX6_set_1 ?_
  refine a_lconst C0 0 dX6_set_2 rfl ?_
  refine a_ldc2 C0 dX6_set_3 u_k_X6_154 ?_
  refine a_callS _ 3 C0 EM.z (c_X6_isIn l G (w2 := 0) (w3 := 3) rfl rfl rfl) u_c_X6_isIn u_m_X6_54 u_st_X6_isIn u_in_X6 hy_X6_isIn.2 (hRk rfl) rfl rfl (le_b rfl) dX6_set_6 (k_ro EM.z ?_)
  refine a_if_eqb C0 37 dX6_set_9 rfl (fun h9 => ?_) (fun h9 => ?_)
  · refine a_iconst C0 (-1) dX6_set_37 rfl ?_
    refine a_iret C0 hr dX6_set_38 ?_
    first
      | (have hc : ((0 ≤ law ∧ law ≤ 3) ∧ (0 ≤ v ∧ v ≤ topL law)) := ⟨h9, by rw [topL_eq h9]; exact h23⟩
         refine ⟨_, rfl, ?_, _, rfl, ?_⟩
         · rw [if_pos hc]
           exact rp.law _ (vp_lt hL)
         · rw [if_pos hc]
           refine rp.law' (vp_lt hL) fun e => ?_
           have e2 : law = 3 := by
             rw [(IX.v hL).eq (by decide), e]
             rfl
           subst e2
           exact in_of (n := 99) (by decide) h23)
      | (have hc : ¬ ((0 ≤ law ∧ law ≤ 3) ∧ (0 ≤ v ∧ v ≤ topL law)) := fun q => by
           first
             | exact h9 q.1
             | (have q2 := q.2
                rw [topL_eq q.1] at q2
                exact h23 q2)
         exact ⟨_, rfl, (if_neg hc).symm, _, rfl, by rw [if_neg hc]; exact rp⟩)
  · refine a_iload_n C0 2 dX6_set_12 rfl rfl ?_
    refine a_i2l C0 dX6_set_13 ?_
    refine a_lconst C0 0 dX6_set_14 rfl ?_
    refine a_iload_n C0 1 dX6_set_15 rfl rfl ?_
    refine a_callS _ 1 C0 EM.z (c_X6_mostOf l G) u_c_X6_mostOf u_m_X6_135 u_st_X6_mostOf u_in_X6 hy_X6_mostOf.2 (hRk rfl) rfl rfl (le_b rfl) dX6_set_16 (k_ro EM.z ?_)
    refine a_i2l C0 dX6_set_19 ?_
    refine a_callS _ 3 C0 EM.z (c_X6_isIn l G (w2 := 0) rfl rfl rfl) u_c_X6_isIn u_m_X6_54 u_st_X6_isIn u_in_X6 hy_X6_isIn.2 (hRk rfl) rfl rfl (le_b rfl) dX6_set_20 (k_ro EM.z ?_)
    refine a_if_eqb C0 37 dX6_set_23 rfl (fun h23 => ?_) (fun h23 => ?_)
    · refine a_iconst C0 (-1) dX6_set_37 rfl ?_
      refine a_iret C0 hr dX6_set_38 ?_
      first
        | (have hc : ((0 ≤ law ∧ law ≤ 3) ∧ (0 ≤ v ∧ v ≤ topL law)) := ⟨h9, by rw [topL_eq h9]; exact h23⟩
           refine ⟨_, rfl, ?_, _, rfl, ?_⟩
           · rw [if_pos hc]
             exact rp.law _ (vp_lt hL)
           · rw [if_pos hc]
             refine rp.law' (vp_lt hL) fun e => ?_
             have e2 : law = 3 := by
               rw [(IX.v hL).eq (by decide), e]
               rfl
             subst e2
             exact in_of (n := 99) (by decide) h23)
        | (have hc : ¬ ((0 ≤ law ∧ law ≤ 3) ∧ (0 ≤ v ∧ v ≤ topL law)) := fun q => by
             first
               | exact h9 q.1
               | (have q2 := q.2
                  rw [topL_eq q.1] at q2
                  exact h23 q2)
           exact ⟨_, rfl, (if_neg hc).symm, _, rfl, by rw [if_neg hc]; exact rp⟩)
    · have hL := in_of (n := 3) (by decide) h9
      have hx := ((IX.v hL).pl 3 (bb := 3) rfl (by decide)).le (n2 := 63) (by decide)
      refine a_aload_n C0 0 dX6_set_26 rfl rfl ?_
      refine a_iconst C0 3 dX6_set_27 rfl ?_
      refine a_iload_n C0 1 dX6_set_28 rfl rfl ?_
      refine a_iadd C0 dX6_set_29 ?_
      refine a_iload_n C0 2 dX6_set_30 rfl rfl ?_
      refine a_callV _ 2 C0 EM.refl (c_X6_becomes l G hx rfl) u_c_X6_becomes u_m_X6_156 u_im_X6_becomes u_se_X6_becomes u_in_X6 hy_X6_becomes rfl (lt_b rfl) rfl (hRk rfl) rfl rfl (le_b rfl) dX6_set_31 (k_de ?_)
      refine a_goto C0 38 dX6_set_34 rfl ?_
      refine a_iret C0 hr dX6_set_38 ?_
      first
        | (have hc : ((0 ≤ law ∧ law ≤ 3) ∧ (0 ≤ v ∧ v ≤ topL law)) := ⟨h9, by rw [topL_eq h9]; exact h23⟩
           refine ⟨_, rfl, ?_, _, rfl, ?_⟩
           · rw [if_pos hc]
             exact rp.law _ (vp_lt hL)
           · rw [if_pos hc]
             refine rp.law' (vp_lt hL) fun e => ?_
             have e2 : law = 3 := by
               rw [(IX.v hL).eq (by decide), e]
               rfl
             subst e2
             exact in_of (n := 99) (by decide) h23)
        | (have hc : ¬ ((0 ≤ law ∧ law ≤ 3) ∧ (0 ≤ v ∧ v ≤ topL law)) := fun q => by
             first
               | exact h9 q.1
               | (have q2 := q.2
                  rw [topL_eq q.1] at q2
                  exact h23 q2)
           exact ⟨_, rfl, (if_neg hc).symm, _, rfl, by rw [if_neg hc]; exact rp⟩)
set_option maxRecDepth 100000 in
set_option maxHeartbeats 4000000 in
theorem c_X6_arrives (l : Launch) (G : GE) {ad : Nat → Nat} {M : WM} {O S : RW} {X : WM} {P : WM} {nT mm : Nat} (rp : RP P S nT mm) {k h a : Int32} (hT : nT < 8) (hk : vp_in k 6) (hh : vp_in h 100) (ha : vp_in a 8) (hM : M = mkM O S X)  : CT l G yX6_arrives cX6_arrives 5 none 0 [.ref (ad 0), .int k, .int h, .int a] 14 ad (shM G ad) M (PV (fun u => ∃ S', u = mkM O S' X ∧ RP (addP P nT k h a) S' (nT + 1) mm)) := by
  refine CT.of (own := RX6) rfl rfl (le_b rfl) fun p e s m args below meth c A C0 hr => ?_
  refine AW.lo (ls2 := [(0, _), (1, _), (2, _), (3, _)]) rfl ?_
  subst hM
  have hx : IX (mkM O S X 1 0) nT 8 := IX.eqn rp.n2 hT (by decide)
  have hx0 := pl0 hx
  refine a_bipush C0 31 dX6_arrives_0 rfl ?_
  refine a_iconst C0 4 dX6_arrives_2 rfl ?_
  refine a_aload_n C0 0 dX6_arrives_3 rfl rfl ?_
  refine g_X6_7 C0 (lt_b rfl) rfl rfl dX6_arrives_4 ?_
  refine a_iconst C0 0 dX6_arrives_7 rfl ?_
  refine a_iald C0 0 (lt_b rfl) rfl (vq rfl) rfl dX6_arrives_8 ?_
  refine a_imul C0 dX6_arrives_9 ?_
  refine a_iadd C0 dX6_arrives_10 ?_
  refine a_istore (ls2 := [(4, _), (0, _), (1, _), (2, _), (3, _)]) C0 dX6_arrives_11 (lt_b rfl) rfl ?_
  refine a_aload_n C0 1 dX6_arrives_13 rfl rfl ?_
  refine g_X6_7 C0 (lt_b rfl) rfl rfl dX6_arrives_14 ?_
  refine a_iload C0 0 dX6_arrives_17 rfl ?_
  refine a_iload_n C0 2 dX6_arrives_19 rfl rfl ?_
  refine a_iast C0 _ (lt_b rfl) (fun _ => rfl) hx0.1 hx0.2 dX6_arrives_20 ?_
  refine a_aload_n C0 1 dX6_arrives_21 rfl rfl ?_
  refine g_X6_7 C0 (lt_b rfl) rfl rfl dX6_arrives_22 ?_
  refine a_iload C0 0 dX6_arrives_25 rfl ?_
  refine a_iconst C0 1 dX6_arrives_27 rfl ?_
  refine a_iadd C0 dX6_arrives_28 ?_
  refine a_iload_n C0 3 dX6_arrives_29 rfl rfl ?_
  refine a_iast C0 _ (lt_b rfl) (fun _ => rfl) (pl_ (k := 1) (j := 1) hx ⟨vq rfl, rfl⟩).1 (pl_ (k := 1) (j := 1) hx ⟨vq rfl, rfl⟩).2 dX6_arrives_30 ?_
  refine a_aload_n C0 1 dX6_arrives_31 rfl rfl ?_
  refine g_X6_7 C0 (lt_b rfl) rfl rfl dX6_arrives_32 ?_
  refine a_iload C0 0 dX6_arrives_35 rfl ?_
  refine a_iconst C0 2 dX6_arrives_37 rfl ?_
  refine a_iadd C0 dX6_arrives_38 ?_
  refine a_iload_n C0 4 dX6_arrives_39 rfl rfl ?_
  refine a_iast C0 _ (lt_b rfl) (fun _ => rfl) (pl_ (k := 2) (j := 2) hx ⟨vq rfl, rfl⟩).1 (pl_ (k := 2) (j := 2) hx ⟨vq rfl, rfl⟩).2 dX6_arrives_40 ?_
  refine a_aload_n C0 1 dX6_arrives_41 rfl rfl ?_
  refine g_X6_7 C0 (lt_b rfl) rfl rfl dX6_arrives_42 ?_
  refine a_iload C0 0 dX6_arrives_45 rfl ?_
  refine a_iconst C0 3 dX6_arrives_47 rfl ?_
  refine a_iadd C0 dX6_arrives_48 ?_
  refine a_iconst C0 1 dX6_arrives_49 rfl ?_
  refine a_iload_n C0 4 dX6_arrives_50 rfl rfl ?_
  refine a_ishl C0 dX6_arrives_51 ?_
  refine a_iast C0 _ (lt_b rfl) (fun _ => rfl) (pl_ (k := 3) (j := 3) hx ⟨vq rfl, rfl⟩).1 (pl_ (k := 3) (j := 3) hx ⟨vq rfl, rfl⟩).2 dX6_arrives_52 ?_
  refine a_aload_n C0 1 dX6_arrives_53 rfl rfl ?_
  refine g_X6_7 C0 (lt_b rfl) rfl rfl dX6_arrives_54 ?_
  refine a_iconst C0 0 dX6_arrives_57 rfl ?_
  refine a_dup2 C0 dX6_arrives_58 rfl rfl ?_
  refine a_iald C0 0 (lt_b rfl) rfl (vq rfl) rfl dX6_arrives_59 ?_
  refine a_iconst C0 1 dX6_arrives_60 rfl ?_
  refine a_iadd C0 dX6_arrives_61 ?_
  refine a_iast C0 0 (lt_b rfl) (fun _ => rfl) (vq rfl) rfl dX6_arrives_62 ?_
  refine a_vret C0 hr dX6_arrives_63 ?_
  rw [mkM_S, mkM_S, mkM_S, mkM_S]
  refine ⟨rfl, _, mkM_S, ?_⟩
  have e : mkM O (upS (upS (upS (upS S (31 + 4 * nT + 0) k) (31 + 4 * nT + 1) h) (31 + 4 * nT + 2) a) (31 + 4 * nT + 3) (1 <<< (a &&& 31))) X 1 0 = S 0 := by
    show upS _ _ _ 0 = S 0
    rw [up_ne (by omega), up_ne (by omega), up_ne (by omega), up_ne (by omega)]
  rw [e]
  exact rp.add hT hk hh ha
set_option maxRecDepth 100000 in
set_option maxHeartbeats 4000000 in
theorem c_X6_tale (l : Launch) (G : GE) {ad : Nat → Nat} {M : WM} {O S : RW} {X : WM} {P : WM} {nT mm : Nat} (rp : RP P S nT mm) {k h a : Int32} (hM : M = mkM O S X)  : CT l G yX6_tale cX6_tale 4 (some .int) 1 [.ref (ad 0), .int k, .int h, .int a] 14 ad (shM G ad) M (PI (fun r u => r = (if ((0 ≤ k ∧ k ≤ 5) ∧ (0 ≤ h ∧ h ≤ 99) ∧ (0 ≤ a ∧ a ≤ 7)) then (if P 0 8 < 8 then P 0 8 else -2) else -1) ∧ ∃ S' T', u = mkM O S' X ∧ RP (if ((0 ≤ k ∧ k ≤ 5) ∧ (0 ≤ h ∧ h ≤ 99) ∧ (0 ≤ a ∧ a ≤ 7)) ∧ P 0 8 < 8 then addP P (ix (P 0 8)) k h a else P) S' T' mm)) := by
  refine CT.of (own := RX6) rfl rfl (le_b rfl) fun p e s m args below meth c A C0 hr => ?_
  refine AW.lo (ls2 := [(0, _), (1, _), (2, _), (3, _)]) rfl ?_
  subst hM
  refine a_iload_n C0 1 dX6_tale_0 rfl rfl ?_
  refine a_i2l C0 dX6_tale_1 ?_
  refine a_lconst C0 0 dX6_tale_2 rfl ?_
  refine a_ldc2 C0 dX6_tale_3 u_k_X6_160 ?_
  refine a_callS _ 3 C0 EM.z (c_X6_isIn l G (w2 := 0) (w3 := 5) rfl rfl rfl) u_c_X6_isIn u_m_X6_54 u_st_X6_isIn u_in_X6 hy_X6_isIn.2 (hRk rfl) rfl rfl (le_b rfl) dX6_tale_6 (k_ro EM.z ?_)
  refine a_if_eqb C0 31 dX6_tale_9 rfl (fun h9 => ?_) (fun h9 => ?_)
  · refine a_iconst C0 (-1) dX6_tale_31 rfl ?_
    refine a_iret C0 hr dX6_tale_32 ?_
    have hc : ¬ ((0 ≤ k ∧ k ≤ 5) ∧ (0 ≤ h ∧ h ≤ 99) ∧ (0 ≤ a ∧ a ≤ 7)) := fun q => by
      first
        | exact h9 q.1
        | exact h21 q.2.1
        | exact h28 q.2.2
    exact ⟨_, rfl, (if_neg hc).symm, _, _, rfl, by rw [if_neg fun q => hc q.1]; exact rp⟩
  · refine a_iload_n C0 2 dX6_tale_12 rfl rfl ?_
    refine a_i2l C0 dX6_tale_13 ?_
    refine a_lconst C0 0 dX6_tale_14 rfl ?_
    refine a_ldc2 C0 dX6_tale_15 u_k_X6_162 ?_
    refine a_callS _ 3 C0 EM.z (c_X6_isIn l G (w2 := 0) (w3 := 99) rfl rfl rfl) u_c_X6_isIn u_m_X6_54 u_st_X6_isIn u_in_X6 hy_X6_isIn.2 (hRk rfl) rfl rfl (le_b rfl) dX6_tale_18 (k_ro EM.z ?_)
    refine a_if_eqb C0 31 dX6_tale_21 rfl (fun h21 => ?_) (fun h21 => ?_)
    · refine a_iconst C0 (-1) dX6_tale_31 rfl ?_
      refine a_iret C0 hr dX6_tale_32 ?_
      have hc : ¬ ((0 ≤ k ∧ k ≤ 5) ∧ (0 ≤ h ∧ h ≤ 99) ∧ (0 ≤ a ∧ a ≤ 7)) := fun q => by
        first
          | exact h9 q.1
          | exact h21 q.2.1
          | exact h28 q.2.2
      exact ⟨_, rfl, (if_neg hc).symm, _, _, rfl, by rw [if_neg fun q => hc q.1]; exact rp⟩
    · refine a_iload_n C0 3 dX6_tale_24 rfl rfl ?_
      refine a_callS _ 1 C0 EM.z (c_X6_isHouse l G) u_c_X6_isHouse u_m_X6_164 u_st_X6_isHouse u_in_X6 hy_X6_isHouse.2 (hRk rfl) rfl rfl (le_b rfl) dX6_tale_25 (k_ro EM.z ?_)
      refine a_if_neb C0 33 dX6_tale_28 rfl (fun h28 => ?_) (fun h28 => ?_)
      · have hc : ((0 ≤ k ∧ k ≤ 5) ∧ (0 ≤ h ∧ h ≤ 99) ∧ (0 ≤ a ∧ a ≤ 7)) := ⟨h9, h21, h28⟩
        have t8 := rp.t8
        refine a_aload_n C0 0 dX6_tale_33 rfl rfl ?_
        refine g_X6_7 C0 (lt_b rfl) rfl rfl dX6_tale_34 ?_
        refine a_iconst C0 0 dX6_tale_37 rfl ?_
        refine a_iald C0 0 (lt_b rfl) rfl (vq rfl) rfl dX6_tale_38 ?_
        refine a_bipush C0 8 dX6_tale_39 rfl ?_
        refine a_icmp_ne C0 47 dX6_tale_41 rfl (fun h41 => ?_) (fun h41 => ?_)
        · have hT : nT < 8 := by
            rcases Nat.lt_or_ge nT 8 with q | q
            · exact q
            · exact absurd (by rw [show mkM O S X 1 0 = nI nT from rp.n2, show nT = 8 by omega]; rfl) h41
          have hlt : P 0 8 < 8 := by
            rw [rp.n1]
            exact nI_lt (b := 8) hT (by decide)
          refine a_aload_n C0 0 dX6_tale_47 rfl rfl ?_
          refine a_iload_n C0 1 dX6_tale_48 rfl rfl ?_
          refine a_iload_n C0 2 dX6_tale_49 rfl rfl ?_
          refine a_iload_n C0 3 dX6_tale_50 rfl rfl ?_
          refine a_callV _ 3 C0 EM.refl (c_X6_arrives l G rp hT (in_of (n := 5) (by decide) h9) (in_of (n := 99) (by decide) h21) (ho_in h28) rfl) u_c_X6_arrives u_m_X6_116 u_im_X6_arrives u_se_X6_arrives u_in_X6 hy_X6_arrives rfl (lt_b rfl) rfl (hRk rfl) rfl rfl (le_b rfl) dX6_tale_51 (k_v fun u51 q51 => ?_)
          obtain ⟨S3, rfl, rp3⟩ := q51
          refine a_aload_n C0 0 dX6_tale_54 rfl rfl ?_
          refine g_X6_7 C0 (lt_b rfl) rfl rfl dX6_tale_55 ?_
          refine a_iconst C0 0 dX6_tale_58 rfl ?_
          refine a_iald C0 0 (lt_b rfl) rfl (vq rfl) rfl dX6_tale_59 ?_
          refine a_iconst C0 1 dX6_tale_60 rfl ?_
          refine a_isub C0 dX6_tale_61 ?_
          refine a_iret C0 hr dX6_tale_62 ?_
          refine ⟨_, rfl, ?_, _, nT + 1, rfl, ?_⟩
          · rw [if_pos hc, if_pos hlt, rp.n1]
            show S3 0 - 1 = _
            rw [rp3.n2]
            exact nI_pred nT
          · rw [if_pos ⟨hc, hlt⟩, show ix (P 0 8) = nT by rw [rp.n1]; exact nI_clamp (by omega)]
            exact rp3
        · refine a_bipush C0 (-2) dX6_tale_44 rfl ?_
          refine a_iret C0 hr dX6_tale_46 ?_
          have hge : ¬ P 0 8 < 8 := by
            rw [rp.n1, ← rp.n2]
            intro q
            rw [show S 0 = 8 from h41] at q
            exact absurd q (by decide)
          exact ⟨_, rfl, by rw [if_pos hc, if_neg hge], _, _, rfl, by rw [if_neg fun q => hge q.2]; exact rp⟩
      · refine a_iconst C0 (-1) dX6_tale_31 rfl ?_
        refine a_iret C0 hr dX6_tale_32 ?_
        have hc : ¬ ((0 ≤ k ∧ k ≤ 5) ∧ (0 ≤ h ∧ h ≤ 99) ∧ (0 ≤ a ∧ a ≤ 7)) := fun q => by
          first
            | exact h9 q.1
            | exact h21 q.2.1
            | exact h28 q.2.2
        exact ⟨_, rfl, (if_neg hc).symm, _, _, rfl, by rw [if_neg fun q => hc q.1]; exact rp⟩
set_option maxRecDepth 100000 in
set_option maxHeartbeats 4000000 in
theorem c_X6_of (l : Launch) (G : GE) {ad : Nat → Nat} {M : WM} {O S : RW} {X : WM} {P : WM} {nT mm : Nat} (rp : RP P S nT mm) {v k : Int32} (hM : M = mkM O S X)  : CT l G yX6_of cX6_of 3 (some .int) 1 [.ref (ad 0), .int v, .int k] 14 ad (shM G ad) M (PI (fun r u => r = (if isTl P v then (if k = 0 then P 4 (ix v) else if k = 1 then P 5 (ix v) else if k = 2 then P 6 (ix v) else if k = 3 then P 7 (ix v) else -1) else -1) ∧ u = mkM O S X)) := by
  refine CT.of (own := RX6) rfl rfl (le_b rfl) fun p e s m args below meth c A C0 hr => ?_
  refine AW.lo (ls2 := [(0, _), (1, _), (2, _)]) rfl ?_
  subst hM
  refine a_aload_n C0 0 dX6_of_0 rfl rfl ?_
  refine a_iload_n C0 1 dX6_of_1 rfl rfl ?_
  refine a_callV _ 1 C0 EM.refl (c_X6_isOne l G rp  rfl) u_c_X6_isOne u_m_X6_173 u_im_X6_isOne u_se_X6_isOne u_in_X6 hy_X6_isOne rfl (lt_b rfl) rfl (hRk rfl) rfl rfl (le_b rfl) dX6_of_2 (k_ro EM.refl ?_)
  refine a_if_eqb C0 29 dX6_of_5 rfl (fun h5 => ?_) (fun h5 => ?_)
  · refine a_iconst C0 (-1) dX6_of_29 rfl ?_
    refine a_iret C0 hr dX6_of_30 ?_
    first
      | (refine rt_ ?_
         rw [if_pos h5]
         match j, hj with
         | 0, _ => rfl
         | 1, _ => rfl
         | 2, _ => rfl
         | 3, _ => rfl)
      | exact rt_ (if_neg h5).symm
      | (refine rt_ ?_
         have n0 : ¬ k = 0 := fun q => h17 (by rw [q]; decide)
         have n1 : ¬ k = 1 := fun q => h17 (by rw [q]; decide)
         have n2 : ¬ k = 2 := fun q => h17 (by rw [q]; decide)
         have n3 : ¬ k = 3 := fun q => h17 (by rw [q]; decide)
         rw [if_pos h5, if_neg n0, if_neg n1, if_neg n2, if_neg n3])
  · refine a_iload_n C0 2 dX6_of_8 rfl rfl ?_
    refine a_i2l C0 dX6_of_9 ?_
    refine a_lconst C0 0 dX6_of_10 rfl ?_
    refine a_ldc2 C0 dX6_of_11 u_k_X6_154 ?_
    refine a_callS _ 3 C0 EM.z (c_X6_isIn l G (w2 := 0) (w3 := 3) rfl rfl rfl) u_c_X6_isIn u_m_X6_54 u_st_X6_isIn u_in_X6 hy_X6_isIn.2 (hRk rfl) rfl rfl (le_b rfl) dX6_of_14 (k_ro EM.z ?_)
    refine a_if_eqb C0 29 dX6_of_17 rfl (fun h17 => ?_) (fun h17 => ?_)
    · refine a_iconst C0 (-1) dX6_of_29 rfl ?_
      refine a_iret C0 hr dX6_of_30 ?_
      first
        | (refine rt_ ?_
           rw [if_pos h5]
           match j, hj with
           | 0, _ => rfl
           | 1, _ => rfl
           | 2, _ => rfl
           | 3, _ => rfl)
        | exact rt_ (if_neg h5).symm
        | (refine rt_ ?_
           have n0 : ¬ k = 0 := fun q => h17 (by rw [q]; decide)
           have n1 : ¬ k = 1 := fun q => h17 (by rw [q]; decide)
           have n2 : ¬ k = 2 := fun q => h17 (by rw [q]; decide)
           have n3 : ¬ k = 3 := fun q => h17 (by rw [q]; decide)
           rw [if_pos h5, if_neg n0, if_neg n1, if_neg n2, if_neg n3])
    · have hv := (isTl_in rp.w).mp h5
      have hx : IX v (ix v) nT := IX.v hv
      obtain ⟨j, hj, rfl⟩ := vp_in_of (in_of (n := 3) (by decide) h17) (by decide)
      refine a_aload_n C0 0 dX6_of_20 rfl rfl ?_
      refine a_iload_n C0 1 dX6_of_21 rfl rfl ?_
      refine a_iload_n C0 2 dX6_of_22 rfl rfl ?_
      refine a_callV _ 2 C0 EM.refl (c_X6_its l G rp hx (IX.n hj (by decide)) rfl rfl) u_c_X6_its u_m_X6_167 u_im_X6_its u_se_X6_its u_in_X6 hy_X6_its rfl (lt_b rfl) rfl (hRk rfl) rfl rfl (le_b rfl) dX6_of_23 (k_ro EM.refl ?_)
      refine a_goto C0 30 dX6_of_26 rfl ?_
      refine a_iret C0 hr dX6_of_30 ?_
      first
        | (refine rt_ ?_
           rw [if_pos h5]
           match j, hj with
           | 0, _ => rfl
           | 1, _ => rfl
           | 2, _ => rfl
           | 3, _ => rfl)
        | exact rt_ (if_neg h5).symm
        | (refine rt_ ?_
           have n0 : ¬ k = 0 := fun q => h17 (by rw [q]; decide)
           have n1 : ¬ k = 1 := fun q => h17 (by rw [q]; decide)
           have n2 : ¬ k = 2 := fun q => h17 (by rw [q]; decide)
           have n3 : ¬ k = 3 := fun q => h17 (by rw [q]; decide)
           rw [if_pos h5, if_neg n0, if_neg n1, if_neg n2, if_neg n3])
set_option maxRecDepth 100000 in
set_option maxHeartbeats 4000000 in
theorem c_X6_does (l : Launch) (G : GE) {ad : Nat → Nat} {M : WM} {O S : RW} {X : WM} {P : WM} {nT mm : Nat} (rp : RP P S nT mm) {v k : Int32} (hm : mm < 2 ^ 31) (hM : M = mkM O S X)  : CT l G yX6_does cX6_does 3 (some .int) 2 [.ref (ad 0), .int v, .int k] 14 ad (shM G ad) M (PI (fun r u => r = (if (isTl P v ∧ (0 ≤ k ∧ k ≤ 1)) then (if k = 0 then 1000 + coolsP P (ix v) else 1000 + doorsP P (ix v)) else -1) ∧ u = mkM O S X)) := by
  refine CT.of (own := RX6) rfl rfl (le_b rfl) fun p e s m args below meth c A C0 hr => ?_
  refine AW.lo (ls2 := [(0, _), (1, _), (2, _)]) rfl ?_
  subst hM
  refine a_aload_n C0 0 dX6_does_0 rfl rfl ?_
  refine a_iload_n C0 1 dX6_does_1 rfl rfl ?_
  refine a_callV _ 1 C0 EM.refl (c_X6_isOne l G rp  rfl) u_c_X6_isOne u_m_X6_173 u_im_X6_isOne u_se_X6_isOne u_in_X6 hy_X6_isOne rfl (lt_b rfl) rfl (hRk rfl) rfl rfl (le_b rfl) dX6_does_2 (k_ro EM.refl ?_)
  refine a_if_eqb C0 18 dX6_does_5 rfl (fun h5 => ?_) (fun h5 => ?_)
  · refine a_iconst C0 (-1) dX6_does_18 rfl ?_
    refine a_iret C0 hr dX6_does_19 ?_
    have hc : ¬ (isTl P v ∧ (0 ≤ k ∧ k ≤ 1)) := fun q => by
      first
        | exact h5 q.1
        | exact h15 q.2
    exact rt_ (if_neg hc).symm
  · refine a_iload_n C0 2 dX6_does_8 rfl rfl ?_
    refine a_i2l C0 dX6_does_9 ?_
    refine a_lconst C0 0 dX6_does_10 rfl ?_
    refine a_lconst C0 1 dX6_does_11 rfl ?_
    refine a_callS _ 3 C0 EM.z (c_X6_isIn l G (w2 := 0) (w3 := 1) rfl rfl rfl) u_c_X6_isIn u_m_X6_54 u_st_X6_isIn u_in_X6 hy_X6_isIn.2 (hRk rfl) rfl rfl (le_b rfl) dX6_does_12 (k_ro EM.z ?_)
    refine a_if_neb C0 20 dX6_does_15 rfl (fun h15 => ?_) (fun h15 => ?_)
    · have hv := (isTl_in rp.w).mp h5
      have hx : IX v (ix v) nT := IX.v hv
      refine a_sipush C0 1000 dX6_does_20 rfl ?_
      refine a_iload_n C0 2 dX6_does_23 rfl rfl ?_
      refine a_if_ne C0 35 dX6_does_24 rfl (fun h24 => ?_) (fun h24 => ?_)
      · refine a_aload_n C0 0 dX6_does_35 rfl rfl ?_
        refine a_iload_n C0 1 dX6_does_36 rfl rfl ?_
        refine a_callV _ 1 C0 EM.refl (c_X6_doors l G rp hx hm rfl) u_c_X6_doors u_m_X6_179 u_im_X6_doors u_se_X6_doors u_in_X6 hy_X6_doors rfl (lt_b rfl) rfl (hRk rfl) rfl rfl (le_b rfl) dX6_does_37 (k_ro EM.refl ?_)
        refine a_iadd C0 dX6_does_40 ?_
        refine a_iret C0 hr dX6_does_41 ?_
        have hc : (isTl P v ∧ (0 ≤ k ∧ k ≤ 1)) := ⟨h5, h15⟩
        first
          | exact rt_ (by rw [if_pos hc, if_pos h24])
          | exact rt_ (by rw [if_pos hc, if_neg h24])
      · refine a_aload_n C0 0 dX6_does_27 rfl rfl ?_
        refine a_iload_n C0 1 dX6_does_28 rfl rfl ?_
        refine a_callV _ 1 C0 EM.refl (c_X6_cools l G rp hx rfl) u_c_X6_cools u_m_X6_176 u_im_X6_cools u_se_X6_cools u_in_X6 hy_X6_cools rfl (lt_b rfl) rfl (hRk rfl) rfl rfl (le_b rfl) dX6_does_29 (k_ro EM.refl ?_)
        refine a_goto C0 40 dX6_does_32 rfl ?_
        refine a_iadd C0 dX6_does_40 ?_
        refine a_iret C0 hr dX6_does_41 ?_
        have hc : (isTl P v ∧ (0 ≤ k ∧ k ≤ 1)) := ⟨h5, h15⟩
        first
          | exact rt_ (by rw [if_pos hc, if_pos h24])
          | exact rt_ (by rw [if_pos hc, if_neg h24])
    · refine a_iconst C0 (-1) dX6_does_18 rfl ?_
      refine a_iret C0 hr dX6_does_19 ?_
      have hc : ¬ (isTl P v ∧ (0 ≤ k ∧ k ≤ 1)) := fun q => by
        first
          | exact h5 q.1
          | exact h15 q.2
      exact rt_ (if_neg hc).symm
set_option maxRecDepth 100000 in
set_option maxHeartbeats 4000000 in
theorem c_X6_mind (l : Launch) (G : GE) {ad : Nat → Nat} {M : WM} {O S : RW} {X : WM} {P : WM} {nT mm : Nat} (rp : RP P S nT mm) {v y : Int32} (hM : M = mkM O S X)  : CT l G yX6_mind cX6_mind 3 (some .int) 1 [.ref (ad 0), .int v, .int y] 14 ad (shM G ad) M (PI (fun r u => r = (if (isTl P v ∧ (0 ≤ y ∧ y ≤ 5)) then P 4 (ix v) else -1) ∧ ∃ S', u = mkM O S' X ∧ RP (if (isTl P v ∧ (0 ≤ y ∧ y ≤ 5)) then up2 P 4 (ix v) y else P) S' nT mm)) := by
  refine CT.of (own := RX6) rfl rfl (le_b rfl) fun p e s m args below meth c A C0 hr => ?_
  refine AW.lo (ls2 := [(0, _), (1, _), (2, _)]) rfl ?_
  subst hM
  refine a_aload_n C0 0 dX6_mind_0 rfl rfl ?_
  refine a_iload_n C0 1 dX6_mind_1 rfl rfl ?_
  refine a_callV _ 1 C0 EM.refl (c_X6_isOne l G rp  rfl) u_c_X6_isOne u_m_X6_173 u_im_X6_isOne u_se_X6_isOne u_in_X6 hy_X6_isOne rfl (lt_b rfl) rfl (hRk rfl) rfl rfl (le_b rfl) dX6_mind_2 (k_ro EM.refl ?_)
  refine a_if_eqb C0 34 dX6_mind_5 rfl (fun h5 => ?_) (fun h5 => ?_)
  · refine a_iconst C0 (-1) dX6_mind_34 rfl ?_
    refine a_iret C0 hr dX6_mind_35 ?_
    first
      | (have hc : (isTl P v ∧ (0 ≤ y ∧ y ≤ 5)) := ⟨h5, h17⟩
         refine ⟨_, rfl, ?_, _, rfl, ?_⟩
         · rw [if_pos hc]
           exact rp.of _ 0 (vp_lt hv) (by decide)
         · rw [if_pos hc]
           exact rp.of' (j := 0) (vp_lt hv) (by decide) (fun _ => in_of (n := 5) (by decide) h17) (fun q => absurd q (by decide)) (fun q => absurd q (by decide)) (fun q => absurd q (by decide)))
      | (have hc : ¬ (isTl P v ∧ (0 ≤ y ∧ y ≤ 5)) := fun q => by
           first
             | exact h5 q.1
             | exact h17 q.2
         exact ⟨_, rfl, (if_neg hc).symm, _, rfl, by rw [if_neg hc]; exact rp⟩)
  · refine a_iload_n C0 2 dX6_mind_8 rfl rfl ?_
    refine a_i2l C0 dX6_mind_9 ?_
    refine a_lconst C0 0 dX6_mind_10 rfl ?_
    refine a_ldc2 C0 dX6_mind_11 u_k_X6_160 ?_
    refine a_callS _ 3 C0 EM.z (c_X6_isIn l G (w2 := 0) (w3 := 5) rfl rfl rfl) u_c_X6_isIn u_m_X6_54 u_st_X6_isIn u_in_X6 hy_X6_isIn.2 (hRk rfl) rfl rfl (le_b rfl) dX6_mind_14 (k_ro EM.z ?_)
    refine a_if_eqb C0 34 dX6_mind_17 rfl (fun h17 => ?_) (fun h17 => ?_)
    · refine a_iconst C0 (-1) dX6_mind_34 rfl ?_
      refine a_iret C0 hr dX6_mind_35 ?_
      first
        | (have hc : (isTl P v ∧ (0 ≤ y ∧ y ≤ 5)) := ⟨h5, h17⟩
           refine ⟨_, rfl, ?_, _, rfl, ?_⟩
           · rw [if_pos hc]
             exact rp.of _ 0 (vp_lt hv) (by decide)
           · rw [if_pos hc]
             exact rp.of' (j := 0) (vp_lt hv) (by decide) (fun _ => in_of (n := 5) (by decide) h17) (fun q => absurd q (by decide)) (fun q => absurd q (by decide)) (fun q => absurd q (by decide)))
        | (have hc : ¬ (isTl P v ∧ (0 ≤ y ∧ y ≤ 5)) := fun q => by
             first
               | exact h5 q.1
               | exact h17 q.2
           exact ⟨_, rfl, (if_neg hc).symm, _, rfl, by rw [if_neg hc]; exact rp⟩)
    · have hv := (isTl_in rp.w).mp h5
      have hx : IX v (ix v) nT := IX.v hv
      have hp := pl0 (hx.le rp.t8)
      refine a_aload_n C0 0 dX6_mind_20 rfl rfl ?_
      refine a_bipush C0 31 dX6_mind_21 rfl ?_
      refine a_iconst C0 4 dX6_mind_23 rfl ?_
      refine a_iload_n C0 1 dX6_mind_24 rfl rfl ?_
      refine a_imul C0 dX6_mind_25 ?_
      refine a_iadd C0 dX6_mind_26 ?_
      refine a_iload_n C0 2 dX6_mind_27 rfl rfl ?_
      refine a_callV _ 2 C0 EM.refl (c_X6_becomes l G hp rfl) u_c_X6_becomes u_m_X6_156 u_im_X6_becomes u_se_X6_becomes u_in_X6 hy_X6_becomes rfl (lt_b rfl) rfl (hRk rfl) rfl rfl (le_b rfl) dX6_mind_28 (k_de ?_)
      refine a_goto C0 35 dX6_mind_31 rfl ?_
      refine a_iret C0 hr dX6_mind_35 ?_
      first
        | (have hc : (isTl P v ∧ (0 ≤ y ∧ y ≤ 5)) := ⟨h5, h17⟩
           refine ⟨_, rfl, ?_, _, rfl, ?_⟩
           · rw [if_pos hc]
             exact rp.of _ 0 (vp_lt hv) (by decide)
           · rw [if_pos hc]
             exact rp.of' (j := 0) (vp_lt hv) (by decide) (fun _ => in_of (n := 5) (by decide) h17) (fun q => absurd q (by decide)) (fun q => absurd q (by decide)) (fun q => absurd q (by decide)))
        | (have hc : ¬ (isTl P v ∧ (0 ≤ y ∧ y ≤ 5)) := fun q => by
             first
               | exact h5 q.1
               | exact h17 q.2
           exact ⟨_, rfl, (if_neg hc).symm, _, rfl, by rw [if_neg hc]; exact rp⟩)
set_option maxRecDepth 100000 in
set_option maxHeartbeats 4000000 in
theorem c_X6_warm (l : Launch) (G : GE) {ad : Nat → Nat} {M : WM} {O S : RW} {X : WM} {P : WM} {nT mm : Nat} (rp : RP P S nT mm) {v y : Int32} (hM : M = mkM O S X)  : CT l G yX6_warm cX6_warm 3 (some .int) 1 [.ref (ad 0), .int v, .int y] 14 ad (shM G ad) M (PI (fun r u => r = (if (isTl P v ∧ (0 ≤ y ∧ y ≤ 99)) then P 5 (ix v) else -1) ∧ ∃ S', u = mkM O S' X ∧ RP (if (isTl P v ∧ (0 ≤ y ∧ y ≤ 99)) then up2 P 5 (ix v) y else P) S' nT mm)) := by
  refine CT.of (own := RX6) rfl rfl (le_b rfl) fun p e s m args below meth c A C0 hr => ?_
  refine AW.lo (ls2 := [(0, _), (1, _), (2, _)]) rfl ?_
  subst hM
  refine a_aload_n C0 0 dX6_warm_0 rfl rfl ?_
  refine a_iload_n C0 1 dX6_warm_1 rfl rfl ?_
  refine a_callV _ 1 C0 EM.refl (c_X6_isOne l G rp  rfl) u_c_X6_isOne u_m_X6_173 u_im_X6_isOne u_se_X6_isOne u_in_X6 hy_X6_isOne rfl (lt_b rfl) rfl (hRk rfl) rfl rfl (le_b rfl) dX6_warm_2 (k_ro EM.refl ?_)
  refine a_if_eqb C0 36 dX6_warm_5 rfl (fun h5 => ?_) (fun h5 => ?_)
  · refine a_iconst C0 (-1) dX6_warm_36 rfl ?_
    refine a_iret C0 hr dX6_warm_37 ?_
    first
      | (have hc : (isTl P v ∧ (0 ≤ y ∧ y ≤ 99)) := ⟨h5, h17⟩
         refine ⟨_, rfl, ?_, _, rfl, ?_⟩
         · rw [if_pos hc]
           exact rp.of _ 1 (vp_lt hv) (by decide)
         · rw [if_pos hc]
           exact rp.heat (vp_lt hv) (in_of (n := 99) (by decide) h17))
      | (have hc : ¬ (isTl P v ∧ (0 ≤ y ∧ y ≤ 99)) := fun q => by
           first
             | exact h5 q.1
             | exact h17 q.2
         exact ⟨_, rfl, (if_neg hc).symm, _, rfl, by rw [if_neg hc]; exact rp⟩)
  · refine a_iload_n C0 2 dX6_warm_8 rfl rfl ?_
    refine a_i2l C0 dX6_warm_9 ?_
    refine a_lconst C0 0 dX6_warm_10 rfl ?_
    refine a_ldc2 C0 dX6_warm_11 u_k_X6_162 ?_
    refine a_callS _ 3 C0 EM.z (c_X6_isIn l G (w2 := 0) (w3 := 99) rfl rfl rfl) u_c_X6_isIn u_m_X6_54 u_st_X6_isIn u_in_X6 hy_X6_isIn.2 (hRk rfl) rfl rfl (le_b rfl) dX6_warm_14 (k_ro EM.z ?_)
    refine a_if_eqb C0 36 dX6_warm_17 rfl (fun h17 => ?_) (fun h17 => ?_)
    · refine a_iconst C0 (-1) dX6_warm_36 rfl ?_
      refine a_iret C0 hr dX6_warm_37 ?_
      first
        | (have hc : (isTl P v ∧ (0 ≤ y ∧ y ≤ 99)) := ⟨h5, h17⟩
           refine ⟨_, rfl, ?_, _, rfl, ?_⟩
           · rw [if_pos hc]
             exact rp.of _ 1 (vp_lt hv) (by decide)
           · rw [if_pos hc]
             exact rp.heat (vp_lt hv) (in_of (n := 99) (by decide) h17))
        | (have hc : ¬ (isTl P v ∧ (0 ≤ y ∧ y ≤ 99)) := fun q => by
             first
               | exact h5 q.1
               | exact h17 q.2
           exact ⟨_, rfl, (if_neg hc).symm, _, rfl, by rw [if_neg hc]; exact rp⟩)
    · have hv := (isTl_in rp.w).mp h5
      have hx : IX v (ix v) nT := IX.v hv
      have hp := pl_ (k := 1) (j := 1) (hx.le rp.t8) ⟨vq rfl, rfl⟩
      refine a_aload_n C0 0 dX6_warm_20 rfl rfl ?_
      refine a_bipush C0 31 dX6_warm_21 rfl ?_
      refine a_iconst C0 4 dX6_warm_23 rfl ?_
      refine a_iload_n C0 1 dX6_warm_24 rfl rfl ?_
      refine a_imul C0 dX6_warm_25 ?_
      refine a_iadd C0 dX6_warm_26 ?_
      refine a_iconst C0 1 dX6_warm_27 rfl ?_
      refine a_iadd C0 dX6_warm_28 ?_
      refine a_iload_n C0 2 dX6_warm_29 rfl rfl ?_
      refine a_callV _ 2 C0 EM.refl (c_X6_becomes l G hp rfl) u_c_X6_becomes u_m_X6_156 u_im_X6_becomes u_se_X6_becomes u_in_X6 hy_X6_becomes rfl (lt_b rfl) rfl (hRk rfl) rfl rfl (le_b rfl) dX6_warm_30 (k_de ?_)
      refine a_goto C0 37 dX6_warm_33 rfl ?_
      refine a_iret C0 hr dX6_warm_37 ?_
      first
        | (have hc : (isTl P v ∧ (0 ≤ y ∧ y ≤ 99)) := ⟨h5, h17⟩
           refine ⟨_, rfl, ?_, _, rfl, ?_⟩
           · rw [if_pos hc]
             exact rp.of _ 1 (vp_lt hv) (by decide)
           · rw [if_pos hc]
             exact rp.heat (vp_lt hv) (in_of (n := 99) (by decide) h17))
        | (have hc : ¬ (isTl P v ∧ (0 ≤ y ∧ y ≤ 99)) := fun q => by
             first
               | exact h5 q.1
               | exact h17 q.2
           exact ⟨_, rfl, (if_neg hc).symm, _, rfl, by rw [if_neg hc]; exact rp⟩)
set_option maxRecDepth 100000 in
set_option maxHeartbeats 4000000 in
theorem c_X6_carry (l : Launch) (G : GE) {ad : Nat → Nat} {M : WM} {O S : RW} {X : WM} {P : WM} {nT mm : Nat} (rp : RP P S nT mm) {v y : Int32} (hM : M = mkM O S X)  : CT l G yX6_carry cX6_carry 4 (some .int) 1 [.ref (ad 0), .int v, .int y] 14 ad (shM G ad) M (PI (fun r u => r = (if (isTl P v ∧ isHo y) then P 6 (ix v) else -1) ∧ ∃ S', u = mkM O S' X ∧ RP (if (isTl P v ∧ isHo y) then bringP P (ix v) y else P) S' nT mm)) := by
  refine CT.of (own := RX6) rfl rfl (le_b rfl) fun p e s m args below meth c A C0 hr => ?_
  refine AW.lo (ls2 := [(0, _), (1, _), (2, _)]) rfl ?_
  subst hM
  refine a_aload_n C0 0 dX6_carry_0 rfl rfl ?_
  refine a_iload_n C0 1 dX6_carry_1 rfl rfl ?_
  refine a_callV _ 1 C0 EM.refl (c_X6_isOne l G rp  rfl) u_c_X6_isOne u_m_X6_173 u_im_X6_isOne u_se_X6_isOne u_in_X6 hy_X6_isOne rfl (lt_b rfl) rfl (hRk rfl) rfl rfl (le_b rfl) dX6_carry_2 (k_ro EM.refl ?_)
  refine a_if_eqb C0 15 dX6_carry_5 rfl (fun h5 => ?_) (fun h5 => ?_)
  · refine a_iconst C0 (-1) dX6_carry_15 rfl ?_
    refine a_iret C0 hr dX6_carry_16 ?_
    have hc : ¬ (isTl P v ∧ isHo y) := fun q => by
      first
        | exact h5 q.1
        | exact h12 q.2
    exact ⟨_, rfl, (if_neg hc).symm, _, rfl, by rw [if_neg hc]; exact rp⟩
  · refine a_iload_n C0 2 dX6_carry_8 rfl rfl ?_
    refine a_callS _ 1 C0 EM.z (c_X6_isHouse l G) u_c_X6_isHouse u_m_X6_164 u_st_X6_isHouse u_in_X6 hy_X6_isHouse.2 (hRk rfl) rfl rfl (le_b rfl) dX6_carry_9 (k_ro EM.z ?_)
    refine a_if_neb C0 17 dX6_carry_12 rfl (fun h12 => ?_) (fun h12 => ?_)
    · have hv := (isTl_in rp.w).mp h5
      have hx : IX v (ix v) nT := IX.v hv
      refine a_aload_n C0 0 dX6_carry_17 rfl rfl ?_
      refine a_iload_n C0 1 dX6_carry_18 rfl rfl ?_
      refine a_iconst C0 2 dX6_carry_19 rfl ?_
      refine a_callV _ 2 C0 EM.refl (c_X6_its l G (c := 6) rp hx ⟨vq rfl, rfl⟩ rfl rfl) u_c_X6_its u_m_X6_167 u_im_X6_its u_se_X6_its u_in_X6 hy_X6_its rfl (lt_b rfl) rfl (hRk rfl) rfl rfl (le_b rfl) dX6_carry_20 (k_ro EM.refl ?_)
      refine a_istore_n (ls2 := [(3, _), (0, _), (1, _), (2, _)]) C0 dX6_carry_23 rfl (lt_b rfl) rfl ?_
      refine a_aload_n C0 1 dX6_carry_24 rfl rfl ?_
      refine a_iload_n C0 2 dX6_carry_25 rfl rfl ?_
      refine a_iload_n C0 3 dX6_carry_26 rfl rfl ?_
      refine a_callV _ 2 C0 EM.refl (c_X6_reaches l G rp hx (ho_in h12) rfl) u_c_X6_reaches u_m_X6_182 u_im_X6_reaches u_se_X6_reaches u_in_X6 hy_X6_reaches rfl (lt_b rfl) rfl (hRk rfl) rfl rfl (le_b rfl) dX6_carry_27 (k_v fun u27 q27 => ?_)
      obtain ⟨S3, rfl, rp3⟩ := q27
      refine a_iload_n C0 0 dX6_carry_30 rfl rfl ?_
      refine a_iret C0 hr dX6_carry_31 ?_
      have hc : (isTl P v ∧ isHo y) := ⟨h5, h12⟩
      exact ⟨_, rfl, (if_pos hc).symm, _, rfl, by rw [if_pos hc]; exact rp3⟩
    · refine a_iconst C0 (-1) dX6_carry_15 rfl ?_
      refine a_iret C0 hr dX6_carry_16 ?_
      have hc : ¬ (isTl P v ∧ isHo y) := fun q => by
        first
          | exact h5 q.1
          | exact h12 q.2
      exact ⟨_, rfl, (if_neg hc).symm, _, rfl, by rw [if_neg hc]; exact rp⟩
