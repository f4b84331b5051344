
abbrev tkn (b : RW) (n : Nat) (t : Tk) : Tk := tk b n t.2.2
def preTale (b : RW) (n : Nat) (kind : Int32) (P : WM) (t0 : Tk) : RS :=
  if (ndR b n (ndR b n (ndR b n (true, P, t0) (P 0 8 < 8)) (nmT b (tkn b n t0) 13 = true)) (nuT b (tkn b n (tkn b n t0)) 7)).1 = true then
    (if nmT b (tkn b n (tkn b n (tkn b n t0))) 14 = true then nuR b n (true, P, tkn b n (tkn b n (tkn b n (tkn b n t0)))) 99 (addP P (ix (P 0 8)) kind (numT b (tkn b n (tkn b n (tkn b n (tkn b n t0))))) (numT b (tkn b n (tkn b n t0))))
     else (true, addP P (ix (P 0 8)) kind 50 (numT b (tkn b n (tkn b n t0))), tkn b n (tkn b n (tkn b n t0))))
  else ndR b n (ndR b n (ndR b n (true, P, t0) (P 0 8 < 8)) (nmT b (tkn b n t0) 13 = true)) (nuT b (tkn b n (tkn b n t0)) 7)
def preLaw (b : RW) (n : Nat) (law : Int32) (P : WM) (t0 : Tk) : RS := nuR b n (true, P, tkn b n t0) (topL law) (up2 P 1 (ix law) (numT b (tkn b n t0)))
def preHouse (b : RW) (n : Nat) (row : Nat) (top : Int32) (P : WM) (t0 : Tk) : RS := nuR b n (ndR b n (ndR b n (true, P, tkn b n t0) (nuT b (tkn b n t0) 7)) (nmT b (tkn b n (tkn b n t0)) 15 = true)) top (up2 P row (ix (numT b (tkn b n t0))) (numT b (tkn b n (tkn b n (tkn b n t0)))))
def preBox (b : RW) (n : Nat) (P : WM) (t0 : Tk) : RS := if nuT b (tkn b n t0) 7 then (true, up2 P 0 7 (P 0 7 ||| 1 <<< (numT b (tkn b n t0) &&& 31)), tkn b n (tkn b n t0)) else (false, P, tkn b n t0)
def preSent (b : RW) (n : Nat) (P : WM) (t0 : Tk) : RS :=
  if kdT b t0 = -1 then
    if lwT b t0 = -1 then
      if nmT b t0 10 = true then preHouse b n 2 7 P t0
      else if nmT b t0 11 = true then preHouse b n 3 99 P t0
      else if nmT b t0 12 = true then preBox b n P t0
      else (false, P, t0)
    else preLaw b n (lwT b t0) P t0
  else preTale b n (kdT b t0) P t0
def smR (b : RW) (n : Nat) (R : RS) : RS := ndR b n R (R.2.2.1 = 3 ∧ b R.2.2.2.1 = 59)
theorem sm_t {b : RW} {n : Nat} {P : WM} {t : Tk} : smR b n (true, P, t) = semiR b n P t := by
  unfold smR semiR
  by_cases c : t.1 = 3 ∧ b t.2.1 = 59
  · rw [ndR_y c, if_pos c]
  · rw [ndR_n c, if_neg c]
theorem sm_f {b : RW} {n : Nat} {P : WM} {t : Tk} : smR b n (false, P, t) = (false, P, t) := ndR_f Bool.false_ne_true
theorem nu_t {b : RW} {n : Nat} {P P' : WM} {t : Tk} {m : Int32} (h : nuT b t m) : nuR b n (true, P, t) m P' = (true, P', tk b n t.2.2) := if_pos ⟨rfl, h⟩
theorem nu_n {b : RW} {n : Nat} {R : RS} {P' : WM} {m : Int32} (h : ¬ nuT b R.2.2 m) : nuR b n R m P' = (false, R.2.1, R.2.2) := if_neg fun z => h z.2
theorem nu_f {b : RW} {n : Nat} {P P' : WM} {t : Tk} {m : Int32} : nuR b n (false, P, t) m P' = (false, P, t) := if_neg fun z => absurd z.1 Bool.false_ne_true
theorem rd_tale {b : RW} {n : Nat} {kind : Int32} {P : WM} {t0 : Tk} : rdTale b n kind P t0 = smR b n (preTale b n kind P t0) := by
  unfold rdTale preTale
  by_cases c1 : P 0 8 < 8
  · rw [if_pos c1, ndR_y c1]
    by_cases c2 : nmT b (tkn b n t0) 13 = true
    · rw [if_pos c2, ndR_y c2]
      by_cases c3 : nuT b (tkn b n (tkn b n t0)) 7
      · rw [if_pos c3, ndR_y c3, if_pos rfl]
        by_cases c4 : nmT b (tkn b n (tkn b n (tkn b n t0))) 14 = true
        · rw [if_pos c4, if_pos c4]
          by_cases c5 : nuT b (tkn b n (tkn b n (tkn b n (tkn b n t0)))) 99
          · rw [if_pos c5, nu_t c5, sm_t]
          · rw [if_neg c5, nu_n c5, sm_f]
        · rw [if_neg c4, if_neg c4, sm_t]
      · rw [if_neg c3, ndR_n c3, if_neg Bool.false_ne_true, sm_f]
    · rw [if_neg c2, ndR_n c2, ndR_f Bool.false_ne_true, if_neg Bool.false_ne_true, sm_f]
  · rw [if_neg c1, ndR_n c1, ndR_f Bool.false_ne_true, ndR_f Bool.false_ne_true, if_neg Bool.false_ne_true, sm_f]
theorem rd_law {b : RW} {n : Nat} {law : Int32} {P : WM} {t0 : Tk} : rdLaw b n law P t0 = smR b n (preLaw b n law P t0) := by
  unfold rdLaw preLaw
  by_cases c : nuT b (tkn b n t0) (topL law)
  · rw [if_pos c, nu_t c, sm_t]
  · rw [if_neg c, nu_n c, sm_f]
theorem rd_house {b : RW} {n row : Nat} {top : Int32} {P : WM} {t0 : Tk} : rdHouse b n row top P t0 = smR b n (preHouse b n row top P t0) := by
  unfold rdHouse preHouse
  by_cases c1 : nuT b (tkn b n t0) 7
  · rw [if_pos c1, ndR_y c1]
    by_cases c2 : nmT b (tkn b n (tkn b n t0)) 15 = true
    · rw [if_pos c2, ndR_y c2]
      by_cases c3 : nuT b (tkn b n (tkn b n (tkn b n t0))) top
      · rw [if_pos c3, nu_t c3, sm_t]
      · rw [if_neg c3, nu_n c3, sm_f]
    · rw [if_neg c2, ndR_n c2, nu_f, sm_f]
  · rw [if_neg c1, ndR_n c1, ndR_f Bool.false_ne_true, nu_f, sm_f]
theorem rd_box {b : RW} {n : Nat} {P : WM} {t0 : Tk} : rdBox b n P t0 = smR b n (preBox b n P t0) := by
  unfold rdBox preBox
  by_cases c : nuT b (tkn b n t0) 7
  · rw [if_pos c, if_pos c, sm_t]
  · rw [if_neg c, if_neg c, sm_f]
theorem rd_sent {b : RW} {n : Nat} {P : WM} {t0 : Tk} : rdSent b n P t0 = smR b n (preSent b n P t0) := by
  unfold rdSent preSent
  by_cases c1 : kdT b t0 = -1
  · rw [if_pos c1, if_pos c1]
    by_cases c2 : lwT b t0 = -1
    · rw [if_pos c2, if_pos c2]
      by_cases c3 : nmT b t0 10 = true
      · rw [if_pos c3, if_pos c3, rd_house]
      · rw [if_neg c3, if_neg c3]
        by_cases c4 : nmT b t0 11 = true
        · rw [if_pos c4, if_pos c4, rd_house]
        · rw [if_neg c4, if_neg c4]
          by_cases c5 : nmT b t0 12 = true
          · rw [if_pos c5, if_pos c5, rd_box]
          · rw [if_neg c5, if_neg c5, sm_f]
    · rw [if_neg c2, if_neg c2, rd_law]
  · rw [if_neg c1, if_neg c1, rd_tale]
theorem addP_h {P : WM} {t : Nat} {k h v a : Int32} : up2 (addP P t k h a) 5 t v = addP P t k v a := by
  funext c j
  unfold addP up2
  by_cases c5 : c = 5
  · subst c5
    by_cases hj : j = t
    · simp [hj]
    · simp [hj]
  · simp [c5]
theorem MR.p {O S b : RW} {n : Nat} {P P1 P' : WM} {t : Tk} {m : Int32} (h : MR O S b n (nuR b n (true, P1, t) m P')) : MR O S b n (nuR b n (true, P, t) m P') := by
  by_cases c : nuT b t m
  · rw [nu_t c] at h ⊢
    exact h
  · rw [nu_n c] at h ⊢
    exact h.w Bool.false_ne_true Bool.false_ne_true rfl
theorem nuz {O S b : RW} {n : Nat} {R : RS} (h1 : MR O S b n R) (hn : n ≤ 200) (c : R.1 = true) : (O 7 = 2 ∧ O 9 - O 8 ≤ 3 ∧ O 10 < 8) ↔ nuT b R.2.2 7 := by
  obtain ⟨a1, a2, a3⟩ := nu_ (m := 7) h1 hn c
  constructor
  · rintro ⟨b1, b2, b3⟩
    have c1 := a1.mp b1
    have c2 := a2.mp b2
    exact ⟨c1, c2, by rw [← a3 c1 c2]; exact lt_7.mp b3⟩
  · rintro ⟨b1, b2, b3⟩
    exact ⟨a1.mpr b1, a2.mpr b2, by rw [a3 b1 b2]; exact lt_7.mpr b3⟩

set_option maxRecDepth 100000 in
set_option maxHeartbeats 4000000 in
theorem c_X6_ofHouse (l : Launch) (G : GE) {ad : Nat → Nat} {M : WM} {O S : RW} {X : WM} {b : RW} {n : Nat} {t0 : Tk} {P : WM} {T : Nat} (h0 : BT O X b n) (g11 : O 11 = 0) (gk : MTK O b n t0) (gr : RP P S T 0) {x mx : Int32} {row rc mn : Nat} (hx : x = nI row) (hrow : row + 8 ≤ 63) (hmx : mx = nI mn) (hmn : mn ≤ 99) (hP : ∀ (T : Nat) (y v : Int32), vp_in y 8 → vp_in v (mn + 1) → RP P S T 0 → RP (up2 P rc (ix y) v) (upS S (row + ix y) v) T 0) (hM : M = mkM O S X)  : CT l G yX6_ofHouse cX6_ofHouse 4 none 4 [.ref (ad 0), .int x, .int mx] 14 ad (shM G ad) M (PV (fun u => ∃ O' S', u = mkM O' S' X ∧ EqW O O' ∧ MR O' S' b n (preHouse b n rc mx P t0))) := by
  refine CT.of (own := RX6) rfl rfl (le_b rfl) fun p e s m args below meth c A C0 hr => ?_
  refine AW.lo (ls2 := [(0, _), (1, _), (2, _)]) rfl ?_
  subst hM
  have f60 : ∀ (O1 : RW) (y : Int32), EqW O O1 → MR O1 S b n (ndR b n (ndR b n ((true, P, tkn b n t0) : RS) (nuT b (tkn b n t0) 7)) (nmT b (tkn b n (tkn b n t0)) 15 = true)) → ((ndR b n (ndR b n ((true, P, tkn b n t0) : RS) (nuT b (tkn b n t0) 7)) (nmT b (tkn b n (tkn b n t0)) 15 = true)).1 = true → vp_in y 8 ∧ y = numT b (tkn b n t0) ∧ (ndR b n (ndR b n ((true, P, tkn b n t0) : RS) (nuT b (tkn b n t0) 7)) (nmT b (tkn b n (tkn b n t0)) 15 = true)).2.2 = tkn b n (tkn b n (tkn b n t0)) ∧ (ndR b n (ndR b n ((true, P, tkn b n t0) : RS) (nuT b (tkn b n t0) 7)) (nmT b (tkn b n (tkn b n t0)) 15 = true)).2.1 = P) → AW p l e (rmk 4) s m args below meth c G A 14 ad (shM G ad) 4 0 0 (MQ below (CQ G 14 ad (shM G ad) A (PV (fun u => ∃ O' S', u = mkM O' S' X ∧ EqW O O' ∧ MR O' S' b n (preHouse b n rc mx P t0)))) args s 0 0 A) 60 [(0, .ref (ad 0)), (1, .int x), (2, .int mx), (3, .int y)] [] (mkM O1 S X) := by
    intro O1 y eW h3 hy
    have b1 : BT O1 X b n := h0.eqW eW
    refine a_aload_n C0 0 dX6_ofHouse_60 rfl rfl ?_
    refine a_aload_n C0 0 dX6_ofHouse_61 rfl rfl ?_
    refine g_X6_87 C0 (lt_b rfl) rfl rfl dX6_ofHouse_62 ?_
    refine a_if_eq C0 72 dX6_ofHouse_65 rfl (fun h65 => ?_) (fun h65 => ?_)
    · refine a_iload_n C0 1 dX6_ofHouse_72 rfl rfl ?_
      refine a_iload_n C0 3 dX6_ofHouse_73 rfl rfl ?_
      refine a_iadd C0 dX6_ofHouse_74 ?_
      refine a_iload_n C0 2 dX6_ofHouse_75 rfl rfl ?_
      have hR : (ndR b n (ndR b n ((true, P, tkn b n t0) : RS) (nuT b (tkn b n t0) 7)) (nmT b (tkn b n (tkn b n t0)) 15 = true)).1 = true := h3.ok.mp h65
      obtain ⟨hy8, ey, e2, e3⟩ := hy hR
      obtain ⟨k11, kk, T5, kr⟩ := h3.1 hR
      rw [e3] at kr
      rw [e2] at kk
      refine a_callV _ 2 C0 EM.refl (c_X6_numberTo l G (P' := up2 P rc (ix (numT b (tkn b n t0))) (numT b (tkn b n (tkn b n (tkn b n t0))))) (j := row + ix y) b1 h3 (fun _ => by
      have := vp_lt hy8
      exact IX.eqn (by rw [hx, (IX.v hy8).eq (by decide), nI_add, show ix (nI (ix y)) = ix y from nI_clamp (by omega)]) (by omega) (by decide)) (fun _ hv => by
      rw [e2] at hv ⊢
      rw [← ey]
      rw [hmx] at hv
      exact ⟨_, hP _ _ _ hy8 (numI kk (k := mn) (by omega) hv).1 kr⟩) rfl) u_c_X6_numberTo u_m_X6_120 u_im_X6_numberTo u_se_X6_numberTo u_in_X6 hy_X6_numberTo rfl (lt_b rfl) rfl (hRk rfl) rfl rfl (le_b rfl) dX6_ofHouse_76 (k_v fun u76 q76 => ?_)
      obtain ⟨O4, S4, rfl, eW4, h4⟩ := q76
      refine a_vret C0 hr dX6_ofHouse_79 ?_
      exact ⟨rfl, O4, S4, rfl, eW.trans eW4, h4⟩
    · refine a_iconst C0 0 dX6_ofHouse_68 rfl ?_
      refine a_goto C0 75 dX6_ofHouse_69 rfl ?_
      refine a_iload_n C0 2 dX6_ofHouse_75 rfl rfl ?_
      have hR : ¬ (ndR b n (ndR b n ((true, P, tkn b n t0) : RS) (nuT b (tkn b n t0) 7)) (nmT b (tkn b n (tkn b n t0)) 15 = true)).1 = true := fun c => h65 (h3.ok.mpr c)
      refine a_callV _ 2 C0 EM.refl (c_X6_numberTo l G (P' := up2 P rc (ix (numT b (tkn b n t0))) (numT b (tkn b n (tkn b n (tkn b n t0))))) (j := 0) b1 h3 (fun c => absurd c hR) (fun c => absurd c hR) rfl) u_c_X6_numberTo u_m_X6_120 u_im_X6_numberTo u_se_X6_numberTo u_in_X6 hy_X6_numberTo rfl (lt_b rfl) rfl (hRk rfl) rfl rfl (le_b rfl) dX6_ofHouse_76 (k_v fun u76 q76 => ?_)
      obtain ⟨O4, S4, rfl, eW4, h4⟩ := q76
      refine a_vret C0 hr dX6_ofHouse_79 ?_
      exact ⟨rfl, O4, S4, rfl, eW.trans eW4, h4⟩
  have f48 : ∀ (O1 : RW) (y : Int32), EqW O O1 → MR O1 S b n (ndR b n ((true, P, tkn b n t0) : RS) (nuT b (tkn b n t0) 7)) → ((ndR b n ((true, P, tkn b n t0) : RS) (nuT b (tkn b n t0) 7)).1 = true → vp_in y 8 ∧ y = numT b (tkn b n t0)) → AW p l e (rmk 4) s m args below meth c G A 14 ad (shM G ad) 4 0 0 (MQ below (CQ G 14 ad (shM G ad) A (PV (fun u => ∃ O' S', u = mkM O' S' X ∧ EqW O O' ∧ MR O' S' b n (preHouse b n rc mx P t0)))) args s 0 0 A) 48 [(0, .ref (ad 0)), (1, .int x), (2, .int mx), (3, .int y)] [] (mkM O1 S X) := by
    intro O1 y eW h2 hy
    have b1 : BT O1 X b n := h0.eqW eW
    refine a_aload_n C0 0 dX6_ofHouse_48 rfl rfl ?_
    refine a_aload_n C0 0 dX6_ofHouse_49 rfl rfl ?_
    refine a_bipush C0 105 dX6_ofHouse_50 rfl ?_
    refine a_bipush C0 115 dX6_ofHouse_52 rfl ?_
    refine a_callV _ 2 C0 EM.refl (c_X6_isTwo l G b1 h2 (ch_ rfl) (ch_ rfl) rfl) u_c_X6_isTwo u_m_X6_112 u_im_X6_isTwo u_se_X6_isTwo u_in_X6 hy_X6_isTwo rfl (lt_b rfl) rfl (hRk rfl) rfl rfl (le_b rfl) dX6_ofHouse_54 (k_i fun r54 u54 q54 => ?_)
    obtain ⟨hr54, rfl⟩ := q54
    have e2 : (ndR b n ((true, P, tkn b n t0) : RS) (nuT b (tkn b n t0) 7)).1 = true → (ndR b n ((true, P, tkn b n t0) : RS) (nuT b (tkn b n t0) 7)).2.2 = tkn b n (tkn b n t0) := fun c => congrArg (fun q : RS => q.2.2) (ndR_t c).2.2
    have hz : (ndR b n ((true, P, tkn b n t0) : RS) (nuT b (tkn b n t0) 7)).1 = true → r54 = bI (nmT b (tkn b n (tkn b n t0)) 15 = true) := fun c => by
      rw [hr54 c, e2 c]
      exact bI_c nm_15.symm
    refine a_callV _ 1 C0 EM.refl (c_X6_needs l G hz b1 h2 rfl) u_c_X6_needs u_m_X6_108 u_im_X6_needs u_se_X6_needs u_in_X6 hy_X6_needs rfl (lt_b rfl) rfl (hRk rfl) rfl rfl (le_b rfl) dX6_ofHouse_57 (k_v fun u57 q57 => ?_)
    obtain ⟨O3, rfl, eW3, h3⟩ := q57
    refine f60 O3 y (eW.trans eW3) h3 fun c => ?_
    obtain ⟨d1, d2, d3⟩ := ndR_t c
    obtain ⟨d4, d5, d6⟩ := ndR_t d1
    refine ⟨(hy d1).1, (hy d1).2, ?_, ?_⟩
    · rw [d3, d6]
    · rw [d3, d6]
  refine a_aload_n C0 0 dX6_ofHouse_0 rfl rfl ?_
  refine a_callV _ 0 C0 EM.refl (c_X6_nextToken l G h0 gk.2.2.1 gk.le.2.2.2.1 rfl) u_c_X6_nextToken u_m_X6_91 u_im_X6_nextToken u_se_X6_nextToken u_in_X6 hy_X6_nextToken rfl (lt_b rfl) rfl (hRk rfl) rfl rfl (le_b rfl) dX6_ofHouse_1 (k_v fun u1 q1 => ?_)
  obtain ⟨O2, rfl, eT, hk⟩ := q1
  have h1 : MR O2 S b n ((true, P, tkn b n t0) : RS) := MR.right ((eT 11 (by omega)).trans g11) hk gr
  have b1 : BT O2 X b n := h0.eqT eT
  refine a_aload_n C0 0 dX6_ofHouse_4 rfl rfl ?_
  refine g_X6_84 C0 (lt_b rfl) rfl rfl dX6_ofHouse_5 ?_
  refine a_istore_n (ls2 := [(3, _), (0, _), (1, _), (2, _)]) C0 dX6_ofHouse_8 rfl (lt_b rfl) rfl ?_
  refine a_aload_n C0 1 dX6_ofHouse_9 rfl rfl ?_
  refine a_aload_n C0 1 dX6_ofHouse_10 rfl rfl ?_
  refine g_X6_81 C0 (lt_b rfl) rfl rfl dX6_ofHouse_11 ?_
  refine a_iconst C0 2 dX6_ofHouse_14 rfl ?_
  refine a_icmp_ne C0 44 dX6_ofHouse_15 rfl (fun h15 => ?_) (fun h15 => ?_)
  · refine a_iconst C0 0 dX6_ofHouse_44 rfl ?_
    have hz : ((true, P, tkn b n t0) : RS).1 = true → (0 : Int32) = bI (nuT b (((true, P, tkn b n t0) : RS)).2.2 7) := fun c => by
      have e := nuz h1 h0.2.1 c
      first
        | exact (bI_t (e.mp ⟨h15, Int32.not_lt.mp h28, Int32.not_le.mp h37⟩)).symm
        | exact (bI_f fun q => h15 (e.mpr q).1).symm
        | exact (bI_f fun q => absurd (e.mpr q).2.1 (Int32.not_le.mpr h28)).symm
        | exact (bI_f fun q => absurd (e.mpr q).2.2 (Int32.not_lt.mpr h37)).symm
    refine a_callV _ 1 C0 EM.refl (c_X6_needs l G hz b1 h1 rfl) u_c_X6_needs u_m_X6_108 u_im_X6_needs u_se_X6_needs u_in_X6 hy_X6_needs rfl (lt_b rfl) rfl (hRk rfl) rfl rfl (le_b rfl) dX6_ofHouse_45 (k_v fun u45 q45 => ?_)
    obtain ⟨O3, rfl, eW3, h2⟩ := q45
    refine AW.sub (ls2 := [(0, _), (1, _), (2, _), (3, _)]) [1, 2, 3, 0] rfl ?_
    refine f48 O3 _ (eT.w.trans eW3) h2 fun c => ?_
    obtain ⟨d4, d5, d6⟩ := ndR_t c
    have e := (nu_ (m := 7) h1 h0.2.1 rfl).2.2 d5.1 d5.2.1
    refine ⟨?_, e⟩
    rw [show mkM O2 S X 0 10 = numT b (tkn b n t0) from e]
    exact (numI hk (k := 7) (by decide) d5).1
  · refine a_aload_n C0 1 dX6_ofHouse_18 rfl rfl ?_
    refine g_X6_64 C0 (lt_b rfl) rfl rfl dX6_ofHouse_19 ?_
    refine a_aload_n C0 1 dX6_ofHouse_22 rfl rfl ?_
    refine g_X6_67 C0 (lt_b rfl) rfl rfl dX6_ofHouse_23 ?_
    refine a_isub C0 dX6_ofHouse_26 ?_
    refine a_iconst C0 3 dX6_ofHouse_27 rfl ?_
    refine a_icmp_gt C0 44 dX6_ofHouse_28 rfl (fun h28 => ?_) (fun h28 => ?_)
    · refine a_iconst C0 0 dX6_ofHouse_44 rfl ?_
      have hz : ((true, P, tkn b n t0) : RS).1 = true → (0 : Int32) = bI (nuT b (((true, P, tkn b n t0) : RS)).2.2 7) := fun c => by
        have e := nuz h1 h0.2.1 c
        first
          | exact (bI_t (e.mp ⟨h15, Int32.not_lt.mp h28, Int32.not_le.mp h37⟩)).symm
          | exact (bI_f fun q => h15 (e.mpr q).1).symm
          | exact (bI_f fun q => absurd (e.mpr q).2.1 (Int32.not_le.mpr h28)).symm
          | exact (bI_f fun q => absurd (e.mpr q).2.2 (Int32.not_lt.mpr h37)).symm
      refine a_callV _ 1 C0 EM.refl (c_X6_needs l G hz b1 h1 rfl) u_c_X6_needs u_m_X6_108 u_im_X6_needs u_se_X6_needs u_in_X6 hy_X6_needs rfl (lt_b rfl) rfl (hRk rfl) rfl rfl (le_b rfl) dX6_ofHouse_45 (k_v fun u45 q45 => ?_)
      obtain ⟨O3, rfl, eW3, h2⟩ := q45
      refine AW.sub (ls2 := [(0, _), (1, _), (2, _), (3, _)]) [1, 2, 3, 0] rfl ?_
      refine f48 O3 _ (eT.w.trans eW3) h2 fun c => ?_
      obtain ⟨d4, d5, d6⟩ := ndR_t c
      have e := (nu_ (m := 7) h1 h0.2.1 rfl).2.2 d5.1 d5.2.1
      refine ⟨?_, e⟩
      rw [show mkM O2 S X 0 10 = numT b (tkn b n t0) from e]
      exact (numI hk (k := 7) (by decide) d5).1
    · refine a_aload_n C0 1 dX6_ofHouse_31 rfl rfl ?_
      refine g_X6_84 C0 (lt_b rfl) rfl rfl dX6_ofHouse_32 ?_
      refine a_bipush C0 8 dX6_ofHouse_35 rfl ?_
      refine a_icmp_ge C0 44 dX6_ofHouse_37 rfl (fun h37 => ?_) (fun h37 => ?_)
      · refine a_iconst C0 0 dX6_ofHouse_44 rfl ?_
        have hz : ((true, P, tkn b n t0) : RS).1 = true → (0 : Int32) = bI (nuT b (((true, P, tkn b n t0) : RS)).2.2 7) := fun c => by
          have e := nuz h1 h0.2.1 c
          first
            | exact (bI_t (e.mp ⟨h15, Int32.not_lt.mp h28, Int32.not_le.mp h37⟩)).symm
            | exact (bI_f fun q => h15 (e.mpr q).1).symm
            | exact (bI_f fun q => absurd (e.mpr q).2.1 (Int32.not_le.mpr h28)).symm
            | exact (bI_f fun q => absurd (e.mpr q).2.2 (Int32.not_lt.mpr h37)).symm
        refine a_callV _ 1 C0 EM.refl (c_X6_needs l G hz b1 h1 rfl) u_c_X6_needs u_m_X6_108 u_im_X6_needs u_se_X6_needs u_in_X6 hy_X6_needs rfl (lt_b rfl) rfl (hRk rfl) rfl rfl (le_b rfl) dX6_ofHouse_45 (k_v fun u45 q45 => ?_)
        obtain ⟨O3, rfl, eW3, h2⟩ := q45
        refine AW.sub (ls2 := [(0, _), (1, _), (2, _), (3, _)]) [1, 2, 3, 0] rfl ?_
        refine f48 O3 _ (eT.w.trans eW3) h2 fun c => ?_
        obtain ⟨d4, d5, d6⟩ := ndR_t c
        have e := (nu_ (m := 7) h1 h0.2.1 rfl).2.2 d5.1 d5.2.1
        refine ⟨?_, e⟩
        rw [show mkM O2 S X 0 10 = numT b (tkn b n t0) from e]
        exact (numI hk (k := 7) (by decide) d5).1
      · refine a_iconst C0 1 dX6_ofHouse_40 rfl ?_
        refine a_goto C0 45 dX6_ofHouse_41 rfl ?_
        have hz : ((true, P, tkn b n t0) : RS).1 = true → (1 : Int32) = bI (nuT b (((true, P, tkn b n t0) : RS)).2.2 7) := fun c => by
          have e := nuz h1 h0.2.1 c
          first
            | exact (bI_t (e.mp ⟨h15, Int32.not_lt.mp h28, Int32.not_le.mp h37⟩)).symm
            | exact (bI_f fun q => h15 (e.mpr q).1).symm
            | exact (bI_f fun q => absurd (e.mpr q).2.1 (Int32.not_le.mpr h28)).symm
            | exact (bI_f fun q => absurd (e.mpr q).2.2 (Int32.not_lt.mpr h37)).symm
        refine a_callV _ 1 C0 EM.refl (c_X6_needs l G hz b1 h1 rfl) u_c_X6_needs u_m_X6_108 u_im_X6_needs u_se_X6_needs u_in_X6 hy_X6_needs rfl (lt_b rfl) rfl (hRk rfl) rfl rfl (le_b rfl) dX6_ofHouse_45 (k_v fun u45 q45 => ?_)
        obtain ⟨O3, rfl, eW3, h2⟩ := q45
        refine AW.sub (ls2 := [(0, _), (1, _), (2, _), (3, _)]) [1, 2, 3, 0] rfl ?_
        refine f48 O3 _ (eT.w.trans eW3) h2 fun c => ?_
        obtain ⟨d4, d5, d6⟩ := ndR_t c
        have e := (nu_ (m := 7) h1 h0.2.1 rfl).2.2 d5.1 d5.2.1
        refine ⟨?_, e⟩
        rw [show mkM O2 S X 0 10 = numT b (tkn b n t0) from e]
        exact (numI hk (k := 7) (by decide) d5).1
set_option maxRecDepth 100000 in
set_option maxHeartbeats 4000000 in
theorem c_X6_boxHere (l : Launch) (G : GE) {ad : Nat → Nat} {M : WM} {O S : RW} {X : WM} {b : RW} {n : Nat} {t0 : Tk} {P : WM} {T : Nat} (h0 : BT O X b n) (g11 : O 11 = 0) (gk : MTK O b n t0) (gr : RP P S T 0) (hM : M = mkM O S X)  : CT l G yX6_boxHere cX6_boxHere 2 none 3 [.ref (ad 0)] 14 ad (shM G ad) M (PV (fun u => ∃ O' S', u = mkM O' S' X ∧ EqW O O' ∧ MR O' S' b n (preBox b n P t0))) := by
  refine CT.of (own := RX6) rfl rfl (le_b rfl) fun p e s m args below meth c A C0 hr => ?_
  refine AW.lo (ls2 := [(0, _)]) rfl ?_
  subst hM
  have f48 : ∀ (O1 : RW) (y : Int32), EqW O O1 → MR O1 S b n (ndR b n ((true, P, tkn b n t0) : RS) (nuT b (tkn b n t0) 7)) → ((ndR b n ((true, P, tkn b n t0) : RS) (nuT b (tkn b n t0) 7)).1 = true → vp_in y 8 ∧ y = numT b (tkn b n t0)) → AW p l e (rmk 3) s m args below meth c G A 14 ad (shM G ad) 2 0 0 (MQ below (CQ G 14 ad (shM G ad) A (PV (fun u => ∃ O' S', u = mkM O' S' X ∧ EqW O O' ∧ MR O' S' b n (preBox b n P t0)))) args s 0 0 A) 48 [(0, .ref (ad 0)), (1, .int y)] [] (mkM O1 S X) := by
    intro O1 y eW h2 hy
    refine a_aload_n C0 0 dX6_boxHere_48 rfl rfl ?_
    refine g_X6_87 C0 (lt_b rfl) rfl rfl dX6_boxHere_49 ?_
    refine a_if_ne C0 65 dX6_boxHere_52 rfl (fun h52 => ?_) (fun h52 => ?_)
    · refine a_vret C0 hr dX6_boxHere_65 ?_
      first
        | (rw [mkM_S]
           obtain ⟨d4, d5, d6⟩ := ndR_t hR
           obtain ⟨k11, kk, T5, kr⟩ := h2.1 hR
           rw [d6] at kk kr
           refine ⟨rfl, O1, _, rfl, eW, ?_⟩
           unfold preBox
           rw [if_pos d5, ← ey]
           have hon := bx_on kr.bxw hy7
           rw [show nI (ix y) = y from ((IX.v hy8).eq (by decide)).symm] at hon
           exact MR.right k11 kk (kr.bx' hy7 hon.1 hon.2))
        | (have hR : ¬ (ndR b n ((true, P, tkn b n t0) : RS) (nuT b (tkn b n t0) 7)).1 = true := fun c => h52 (h2.ok.mpr c)
           refine ⟨rfl, O1, S, rfl, eW, ?_⟩
           have hn : ¬ nuT b (tkn b n t0) 7 := fun c => hR (by rw [ndR_y c])
           unfold preBox
           rw [if_neg hn]
           rw [ndR_n hn] at h2
           exact h2)
    · have hR : (ndR b n ((true, P, tkn b n t0) : RS) (nuT b (tkn b n t0) 7)).1 = true := h2.ok.mp h52
      obtain ⟨hy8, ey⟩ := hy hR
      have hy7 := vp_lt hy8
      have hx : IX (23 + y) (23 + ix y) 63 := IX.eqn (by
        refine Eq.trans ?_ (nI_add 23 (ix y))
        rw [← (IX.v hy8).eq (by decide)]
        rfl) (by omega) (by decide)
      refine a_aload_n C0 0 dX6_boxHere_55 rfl rfl ?_
      refine g_X6_7 C0 (lt_b rfl) rfl rfl dX6_boxHere_56 ?_
      refine a_bipush C0 23 dX6_boxHere_59 rfl ?_
      refine a_iload_n C0 1 dX6_boxHere_61 rfl rfl ?_
      refine a_iadd C0 dX6_boxHere_62 ?_
      refine a_iconst C0 1 dX6_boxHere_63 rfl ?_
      refine a_iast C0 _ (lt_b rfl) (fun _ => rfl) hx.1 hx.2 dX6_boxHere_64 ?_
      refine a_vret C0 hr dX6_boxHere_65 ?_
      first
        | (rw [mkM_S]
           obtain ⟨d4, d5, d6⟩ := ndR_t hR
           obtain ⟨k11, kk, T5, kr⟩ := h2.1 hR
           rw [d6] at kk kr
           refine ⟨rfl, O1, _, rfl, eW, ?_⟩
           unfold preBox
           rw [if_pos d5, ← ey]
           have hon := bx_on kr.bxw hy7
           rw [show nI (ix y) = y from ((IX.v hy8).eq (by decide)).symm] at hon
           exact MR.right k11 kk (kr.bx' hy7 hon.1 hon.2))
        | (have hR : ¬ (ndR b n ((true, P, tkn b n t0) : RS) (nuT b (tkn b n t0) 7)).1 = true := fun c => h52 (h2.ok.mpr c)
           refine ⟨rfl, O1, S, rfl, eW, ?_⟩
           have hn : ¬ nuT b (tkn b n t0) 7 := fun c => hR (by rw [ndR_y c])
           unfold preBox
           rw [if_neg hn]
           rw [ndR_n hn] at h2
           exact h2)
  refine a_aload_n C0 0 dX6_boxHere_0 rfl rfl ?_
  refine a_callV _ 0 C0 EM.refl (c_X6_nextToken l G h0 gk.2.2.1 gk.le.2.2.2.1 rfl) u_c_X6_nextToken u_m_X6_91 u_im_X6_nextToken u_se_X6_nextToken u_in_X6 hy_X6_nextToken rfl (lt_b rfl) rfl (hRk rfl) rfl rfl (le_b rfl) dX6_boxHere_1 (k_v fun u1 q1 => ?_)
  obtain ⟨O2, rfl, eT, hk⟩ := q1
  have h1 : MR O2 S b n ((true, P, tkn b n t0) : RS) := MR.right ((eT 11 (by omega)).trans g11) hk gr
  have b1 : BT O2 X b n := h0.eqT eT
  refine a_aload_n C0 0 dX6_boxHere_4 rfl rfl ?_
  refine g_X6_84 C0 (lt_b rfl) rfl rfl dX6_boxHere_5 ?_
  refine a_istore_n (ls2 := [(1, _), (0, _)]) C0 dX6_boxHere_8 rfl (lt_b rfl) rfl ?_
  refine a_aload_n C0 1 dX6_boxHere_9 rfl rfl ?_
  refine a_aload_n C0 1 dX6_boxHere_10 rfl rfl ?_
  refine g_X6_81 C0 (lt_b rfl) rfl rfl dX6_boxHere_11 ?_
  refine a_iconst C0 2 dX6_boxHere_14 rfl ?_
  refine a_icmp_ne C0 44 dX6_boxHere_15 rfl (fun h15 => ?_) (fun h15 => ?_)
  · refine a_iconst C0 0 dX6_boxHere_44 rfl ?_
    have hz : ((true, P, tkn b n t0) : RS).1 = true → (0 : Int32) = bI (nuT b (((true, P, tkn b n t0) : RS)).2.2 7) := fun c => by
      have e := nuz h1 h0.2.1 c
      first
        | exact (bI_t (e.mp ⟨h15, Int32.not_lt.mp h28, Int32.not_le.mp h37⟩)).symm
        | exact (bI_f fun q => h15 (e.mpr q).1).symm
        | exact (bI_f fun q => absurd (e.mpr q).2.1 (Int32.not_le.mpr h28)).symm
        | exact (bI_f fun q => absurd (e.mpr q).2.2 (Int32.not_lt.mpr h37)).symm
    refine a_callV _ 1 C0 EM.refl (c_X6_needs l G hz b1 h1 rfl) u_c_X6_needs u_m_X6_108 u_im_X6_needs u_se_X6_needs u_in_X6 hy_X6_needs rfl (lt_b rfl) rfl (hRk rfl) rfl rfl (le_b rfl) dX6_boxHere_45 (k_v fun u45 q45 => ?_)
    obtain ⟨O3, rfl, eW3, h2⟩ := q45
    refine AW.sub (ls2 := [(0, _), (1, _)]) [1, 0] rfl ?_
    refine f48 O3 _ (eT.w.trans eW3) h2 fun c => ?_
    obtain ⟨d4, d5, d6⟩ := ndR_t c
    have e := (nu_ (m := 7) h1 h0.2.1 rfl).2.2 d5.1 d5.2.1
    refine ⟨?_, e⟩
    rw [show mkM O2 S X 0 10 = numT b (tkn b n t0) from e]
    exact (numI hk (k := 7) (by decide) d5).1
  · refine a_aload_n C0 1 dX6_boxHere_18 rfl rfl ?_
    refine g_X6_64 C0 (lt_b rfl) rfl rfl dX6_boxHere_19 ?_
    refine a_aload_n C0 1 dX6_boxHere_22 rfl rfl ?_
    refine g_X6_67 C0 (lt_b rfl) rfl rfl dX6_boxHere_23 ?_
    refine a_isub C0 dX6_boxHere_26 ?_
    refine a_iconst C0 3 dX6_boxHere_27 rfl ?_
    refine a_icmp_gt C0 44 dX6_boxHere_28 rfl (fun h28 => ?_) (fun h28 => ?_)
    · refine a_iconst C0 0 dX6_boxHere_44 rfl ?_
      have hz : ((true, P, tkn b n t0) : RS).1 = true → (0 : Int32) = bI (nuT b (((true, P, tkn b n t0) : RS)).2.2 7) := fun c => by
        have e := nuz h1 h0.2.1 c
        first
          | exact (bI_t (e.mp ⟨h15, Int32.not_lt.mp h28, Int32.not_le.mp h37⟩)).symm
          | exact (bI_f fun q => h15 (e.mpr q).1).symm
          | exact (bI_f fun q => absurd (e.mpr q).2.1 (Int32.not_le.mpr h28)).symm
          | exact (bI_f fun q => absurd (e.mpr q).2.2 (Int32.not_lt.mpr h37)).symm
      refine a_callV _ 1 C0 EM.refl (c_X6_needs l G hz b1 h1 rfl) u_c_X6_needs u_m_X6_108 u_im_X6_needs u_se_X6_needs u_in_X6 hy_X6_needs rfl (lt_b rfl) rfl (hRk rfl) rfl rfl (le_b rfl) dX6_boxHere_45 (k_v fun u45 q45 => ?_)
      obtain ⟨O3, rfl, eW3, h2⟩ := q45
      refine AW.sub (ls2 := [(0, _), (1, _)]) [1, 0] rfl ?_
      refine f48 O3 _ (eT.w.trans eW3) h2 fun c => ?_
      obtain ⟨d4, d5, d6⟩ := ndR_t c
      have e := (nu_ (m := 7) h1 h0.2.1 rfl).2.2 d5.1 d5.2.1
      refine ⟨?_, e⟩
      rw [show mkM O2 S X 0 10 = numT b (tkn b n t0) from e]
      exact (numI hk (k := 7) (by decide) d5).1
    · refine a_aload_n C0 1 dX6_boxHere_31 rfl rfl ?_
      refine g_X6_84 C0 (lt_b rfl) rfl rfl dX6_boxHere_32 ?_
      refine a_bipush C0 8 dX6_boxHere_35 rfl ?_
      refine a_icmp_ge C0 44 dX6_boxHere_37 rfl (fun h37 => ?_) (fun h37 => ?_)
      · refine a_iconst C0 0 dX6_boxHere_44 rfl ?_
        have hz : ((true, P, tkn b n t0) : RS).1 = true → (0 : Int32) = bI (nuT b (((true, P, tkn b n t0) : RS)).2.2 7) := fun c => by
          have e := nuz h1 h0.2.1 c
          first
            | exact (bI_t (e.mp ⟨h15, Int32.not_lt.mp h28, Int32.not_le.mp h37⟩)).symm
            | exact (bI_f fun q => h15 (e.mpr q).1).symm
            | exact (bI_f fun q => absurd (e.mpr q).2.1 (Int32.not_le.mpr h28)).symm
            | exact (bI_f fun q => absurd (e.mpr q).2.2 (Int32.not_lt.mpr h37)).symm
        refine a_callV _ 1 C0 EM.refl (c_X6_needs l G hz b1 h1 rfl) u_c_X6_needs u_m_X6_108 u_im_X6_needs u_se_X6_needs u_in_X6 hy_X6_needs rfl (lt_b rfl) rfl (hRk rfl) rfl rfl (le_b rfl) dX6_boxHere_45 (k_v fun u45 q45 => ?_)
        obtain ⟨O3, rfl, eW3, h2⟩ := q45
        refine AW.sub (ls2 := [(0, _), (1, _)]) [1, 0] rfl ?_
        refine f48 O3 _ (eT.w.trans eW3) h2 fun c => ?_
        obtain ⟨d4, d5, d6⟩ := ndR_t c
        have e := (nu_ (m := 7) h1 h0.2.1 rfl).2.2 d5.1 d5.2.1
        refine ⟨?_, e⟩
        rw [show mkM O2 S X 0 10 = numT b (tkn b n t0) from e]
        exact (numI hk (k := 7) (by decide) d5).1
      · refine a_iconst C0 1 dX6_boxHere_40 rfl ?_
        refine a_goto C0 45 dX6_boxHere_41 rfl ?_
        have hz : ((true, P, tkn b n t0) : RS).1 = true → (1 : Int32) = bI (nuT b (((true, P, tkn b n t0) : RS)).2.2 7) := fun c => by
          have e := nuz h1 h0.2.1 c
          first
            | exact (bI_t (e.mp ⟨h15, Int32.not_lt.mp h28, Int32.not_le.mp h37⟩)).symm
            | exact (bI_f fun q => h15 (e.mpr q).1).symm
            | exact (bI_f fun q => absurd (e.mpr q).2.1 (Int32.not_le.mpr h28)).symm
            | exact (bI_f fun q => absurd (e.mpr q).2.2 (Int32.not_lt.mpr h37)).symm
        refine a_callV _ 1 C0 EM.refl (c_X6_needs l G hz b1 h1 rfl) u_c_X6_needs u_m_X6_108 u_im_X6_needs u_se_X6_needs u_in_X6 hy_X6_needs rfl (lt_b rfl) rfl (hRk rfl) rfl rfl (le_b rfl) dX6_boxHere_45 (k_v fun u45 q45 => ?_)
        obtain ⟨O3, rfl, eW3, h2⟩ := q45
        refine AW.sub (ls2 := [(0, _), (1, _)]) [1, 0] rfl ?_
        refine f48 O3 _ (eT.w.trans eW3) h2 fun c => ?_
        obtain ⟨d4, d5, d6⟩ := ndR_t c
        have e := (nu_ (m := 7) h1 h0.2.1 rfl).2.2 d5.1 d5.2.1
        refine ⟨?_, e⟩
        rw [show mkM O2 S X 0 10 = numT b (tkn b n t0) from e]
        exact (numI hk (k := 7) (by decide) d5).1
set_option maxRecDepth 100000 in
set_option maxHeartbeats 4000000 in
theorem c_X6_taleHere (l : Launch) (G : GE) {ad : Nat → Nat} {M : WM} {O S : RW} {X : WM} {b : RW} {n : Nat} {t0 : Tk} {P : WM} {T : Nat} (h0 : BT O X b n) (g11 : O 11 = 0) (gk : MTK O b n t0) (gr : RP P S T 0) {k : Int32} (hkd : vp_in k 6) (hM : M = mkM O S X)  : CT l G yX6_taleHere cX6_taleHere 4 none 4 [.ref (ad 0), .int k] 14 ad (shM G ad) M (PV (fun u => ∃ O' S', u = mkM O' S' X ∧ EqW O O' ∧ MR O' S' b n (preTale b n k P t0))) := by
  refine CT.of (own := RX6) rfl rfl (le_b rfl) fun p e s m args below meth c A C0 hr => ?_
  refine AW.lo (ls2 := [(0, _), (1, _)]) rfl ?_
  subst hM
  have f88 : ∀ (O1 : RW) (y : Int32), EqW O O1 → MR O1 S b n (ndR b n (ndR b n (ndR b n ((true, P, t0) : RS) (P 0 8 < 8)) (nmT b (tkn b n t0) 13 = true)) (nuT b (tkn b n (tkn b n t0)) 7)) → ((ndR b n (ndR b n (ndR b n ((true, P, t0) : RS) (P 0 8 < 8)) (nmT b (tkn b n t0) 13 = true)) (nuT b (tkn b n (tkn b n t0)) 7)).1 = true → vp_in y 8 ∧ y = numT b (tkn b n (tkn b n t0))) → AW p l e (rmk 4) s m args below meth c G A 14 ad (shM G ad) 4 0 0 (MQ below (CQ G 14 ad (shM G ad) A (PV (fun u => ∃ O' S', u = mkM O' S' X ∧ EqW O O' ∧ MR O' S' b n (preTale b n k P t0)))) args s 0 0 A) 88 [(0, .ref (ad 0)), (1, .int k), (2, .int (31 + 4 * S 0)), (3, .int y)] [] (mkM O1 S X) := by
    intro O1 y eW h3 hy
    have b1 : BT O1 X b n := h0.eqW eW
    refine a_aload_n C0 0 dX6_taleHere_88 rfl rfl ?_
    refine g_X6_87 C0 (lt_b rfl) rfl rfl dX6_taleHere_89 ?_
    refine a_if_ne C0 103 dX6_taleHere_92 rfl (fun h92 => ?_) (fun h92 => ?_)
    · refine a_aload_n C0 0 dX6_taleHere_103 rfl rfl ?_
      refine g_X6_87 C0 (lt_b rfl) rfl rfl dX6_taleHere_104 ?_
      refine a_if_ne C0 138 dX6_taleHere_107 rfl (fun h107 => ?_) (fun h107 => ?_)
      · refine a_vret C0 hr dX6_taleHere_138 ?_
        first
          | (refine ⟨rfl, O5, S5, rfl, (eW.trans eT4.w).trans eW5, ?_⟩
             unfold preTale
             rw [if_pos hR, if_pos y14, eT5, ← ey]
             exact h5.p)
          | (have n14 : ¬ nmT b (tkn b n (tkn b n (tkn b n t0))) 14 = true := fun q => h122 (nm_14.mp q)
             refine ⟨rfl, O1, S2, rfl, eW, ?_⟩
             unfold preTale
             rw [if_pos hR, if_neg n14, eT5, ← ey]
             exact MR.right k11 kk gr2)
          | (have hR : ¬ (ndR b n (ndR b n (ndR b n ((true, P, t0) : RS) (P 0 8 < 8)) (nmT b (tkn b n t0) 13 = true)) (nuT b (tkn b n (tkn b n t0)) 7)).1 = true := fun c => h92 (h3.ok.mpr c)
             refine ⟨rfl, O1, S, rfl, eW, ?_⟩
             unfold preTale
             rw [if_neg hR]
             exact h3)
      · exact (h92 h107).elim
    · have hR : (ndR b n (ndR b n (ndR b n ((true, P, t0) : RS) (P 0 8 < 8)) (nmT b (tkn b n t0) 13 = true)) (nuT b (tkn b n (tkn b n t0)) 7)).1 = true := h3.ok.mp h92
      obtain ⟨hy8, ey⟩ := hy hR
      obtain ⟨d1, d2, d3⟩ := ndR_t hR
      obtain ⟨d4, d5, d6⟩ := ndR_t d1
      obtain ⟨d7, d8, d9⟩ := ndR_t d4
      obtain ⟨k11, kk, T5, kr⟩ := h3.1 hR
      rw [d3, d6, d9] at kk kr
      have hT8 : T5 < 8 := by
        have q := kr.n1
        rw [show (P 0 8 = nI T5) from q] at d8
        exact (nI_ltI (b := 8) (by have := kr.t8; omega) (by decide)).mp d8
      have eT5 : ix (P 0 8) = T5 := by
        rw [show P 0 8 = nI T5 from kr.n1]
        exact nI_clamp (by omega)
      have hIX := pl_ (x := S 0) (k := 1) (t := T5) (j := 1) (IX.eqn kr.n2 hT8 (by decide)) ⟨vq rfl, rfl⟩
      refine a_aload_n C0 0 dX6_taleHere_95 rfl rfl ?_
      refine a_iload_n C0 1 dX6_taleHere_96 rfl rfl ?_
      refine a_bipush C0 50 dX6_taleHere_97 rfl ?_
      refine a_iload_n C0 3 dX6_taleHere_99 rfl rfl ?_
      refine a_callV _ 3 C0 EM.refl (c_X6_arrives l G kr hT8 hkd (vq rfl) hy8 rfl) u_c_X6_arrives u_m_X6_116 u_im_X6_arrives u_se_X6_arrives u_in_X6 hy_X6_arrives rfl (lt_b rfl) rfl (hRk rfl) rfl rfl (le_b rfl) dX6_taleHere_100 (k_v fun u100 q100 => ?_)
      obtain ⟨S2, rfl, gr2⟩ := q100
      refine a_aload_n C0 0 dX6_taleHere_103 rfl rfl ?_
      refine g_X6_87 C0 (lt_b rfl) rfl rfl dX6_taleHere_104 ?_
      refine a_if_ne C0 138 dX6_taleHere_107 rfl (fun h107 => ?_) (fun h107 => ?_)
      · exact (h107 h92).elim
      · refine a_aload_n C0 0 dX6_taleHere_110 rfl rfl ?_
        refine a_bipush C0 104 dX6_taleHere_111 rfl ?_
        refine a_bipush C0 101 dX6_taleHere_113 rfl ?_
        refine a_bipush C0 97 dX6_taleHere_115 rfl ?_
        refine a_bipush C0 116 dX6_taleHere_117 rfl ?_
        refine a_callV _ 4 C0 EM.refl (c_X6_isFour l G b1 kk (ch_ rfl) (ch_ rfl) (ch_ rfl) (ch_ rfl) rfl) u_c_X6_isFour u_m_X6_98 u_im_X6_isFour u_se_X6_isFour u_in_X6 hy_X6_isFour rfl (lt_b rfl) rfl (hRk rfl) rfl rfl (le_b rfl) dX6_taleHere_119 (k_ro EM.refl ?_)
        refine a_if_eqb C0 138 dX6_taleHere_122 rfl (fun h122 => ?_) (fun h122 => ?_)
        · refine a_vret C0 hr dX6_taleHere_138 ?_
          first
            | (refine ⟨rfl, O5, S5, rfl, (eW.trans eT4.w).trans eW5, ?_⟩
               unfold preTale
               rw [if_pos hR, if_pos y14, eT5, ← ey]
               exact h5.p)
            | (have n14 : ¬ nmT b (tkn b n (tkn b n (tkn b n t0))) 14 = true := fun q => h122 (nm_14.mp q)
               refine ⟨rfl, O1, S2, rfl, eW, ?_⟩
               unfold preTale
               rw [if_pos hR, if_neg n14, eT5, ← ey]
               exact MR.right k11 kk gr2)
            | (have hR : ¬ (ndR b n (ndR b n (ndR b n ((true, P, t0) : RS) (P 0 8 < 8)) (nmT b (tkn b n t0) 13 = true)) (nuT b (tkn b n (tkn b n t0)) 7)).1 = true := fun c => h92 (h3.ok.mpr c)
               refine ⟨rfl, O1, S, rfl, eW, ?_⟩
               unfold preTale
               rw [if_neg hR]
               exact h3)
        · refine a_aload_n C0 0 dX6_taleHere_125 rfl rfl ?_
          have y14 := nm_14.mpr h122
          refine a_callV _ 0 C0 EM.refl (c_X6_nextToken l G b1 kk.2.2.1 kk.le.2.2.2.1 rfl) u_c_X6_nextToken u_m_X6_91 u_im_X6_nextToken u_se_X6_nextToken u_in_X6 hy_X6_nextToken rfl (lt_b rfl) rfl (hRk rfl) rfl rfl (le_b rfl) dX6_taleHere_126 (k_v fun u126 q126 => ?_)
          obtain ⟨O4, rfl, eT4, hk4⟩ := q126
          have h4 : MR O4 S2 b n (true, addP P T5 k 50 y, tkn b n (tkn b n (tkn b n (tkn b n t0)))) := MR.right ((eT4 11 (by omega)).trans k11) hk4 gr2
          refine a_aload_n C0 0 dX6_taleHere_129 rfl rfl ?_
          refine a_iload_n C0 2 dX6_taleHere_130 rfl rfl ?_
          refine a_iconst C0 1 dX6_taleHere_131 rfl ?_
          refine a_iadd C0 dX6_taleHere_132 ?_
          refine a_bipush C0 99 dX6_taleHere_133 rfl ?_
          refine a_callV _ 2 C0 EM.refl (c_X6_numberTo l G (P' := addP P T5 k (numT b (tkn b n (tkn b n (tkn b n (tkn b n t0))))) y) (b1.eqT eT4) h4 (fun _ => hIX) (fun _ hv => ⟨_, addP_h ▸ gr2.heat (t := T5) (by omega) (numI hk4 (k := 99) (by decide) hv).1⟩) rfl) u_c_X6_numberTo u_m_X6_120 u_im_X6_numberTo u_se_X6_numberTo u_in_X6 hy_X6_numberTo rfl (lt_b rfl) rfl (hRk rfl) rfl rfl (le_b rfl) dX6_taleHere_135 (k_v fun u135 q135 => ?_)
          obtain ⟨O5, S5, rfl, eW5, h5⟩ := q135
          refine a_vret C0 hr dX6_taleHere_138 ?_
          first
            | (refine ⟨rfl, O5, S5, rfl, (eW.trans eT4.w).trans eW5, ?_⟩
               unfold preTale
               rw [if_pos hR, if_pos y14, eT5, ← ey]
               exact h5.p)
            | (have n14 : ¬ nmT b (tkn b n (tkn b n (tkn b n t0))) 14 = true := fun q => h122 (nm_14.mp q)
               refine ⟨rfl, O1, S2, rfl, eW, ?_⟩
               unfold preTale
               rw [if_pos hR, if_neg n14, eT5, ← ey]
               exact MR.right k11 kk gr2)
            | (have hR : ¬ (ndR b n (ndR b n (ndR b n ((true, P, t0) : RS) (P 0 8 < 8)) (nmT b (tkn b n t0) 13 = true)) (nuT b (tkn b n (tkn b n t0)) 7)).1 = true := fun c => h92 (h3.ok.mpr c)
               refine ⟨rfl, O1, S, rfl, eW, ?_⟩
               unfold preTale
               rw [if_neg hR]
               exact h3)
  have f44 : ∀ (O1 : RW), EqW O O1 → MR O1 S b n (ndR b n (ndR b n ((true, P, t0) : RS) (P 0 8 < 8)) (nmT b (tkn b n t0) 13 = true)) → AW p l e (rmk 4) s m args below meth c G A 14 ad (shM G ad) 4 0 0 (MQ below (CQ G 14 ad (shM G ad) A (PV (fun u => ∃ O' S', u = mkM O' S' X ∧ EqW O O' ∧ MR O' S' b n (preTale b n k P t0)))) args s 0 0 A) 44 [(0, .ref (ad 0)), (1, .int k), (2, .int (31 + 4 * S 0))] [] (mkM O1 S X) := by
    intro O1 eW h2
    have b1 : BT O1 X b n := h0.eqW eW
    have e2 : (ndR b n (ndR b n ((true, P, t0) : RS) (P 0 8 < 8)) (nmT b (tkn b n t0) 13 = true)).1 = true → (ndR b n (ndR b n ((true, P, t0) : RS) (P 0 8 < 8)) (nmT b (tkn b n t0) 13 = true)).2.2 = tkn b n (tkn b n t0) ∧ (ndR b n (ndR b n ((true, P, t0) : RS) (P 0 8 < 8)) (nmT b (tkn b n t0) 13 = true)).2.1 = P := fun c => by
      obtain ⟨d4, d5, d6⟩ := ndR_t c
      obtain ⟨d7, d8, d9⟩ := ndR_t d4
      rw [d6, d9]
      exact ⟨rfl, rfl⟩
    refine a_aload_n C0 0 dX6_taleHere_44 rfl rfl ?_
    refine g_X6_84 C0 (lt_b rfl) rfl rfl dX6_taleHere_45 ?_
    refine a_istore_n (ls2 := [(3, _), (0, _), (1, _), (2, _)]) C0 dX6_taleHere_48 rfl (lt_b rfl) rfl ?_
    refine a_aload_n C0 1 dX6_taleHere_49 rfl rfl ?_
    refine a_aload_n C0 1 dX6_taleHere_50 rfl rfl ?_
    refine g_X6_81 C0 (lt_b rfl) rfl rfl dX6_taleHere_51 ?_
    refine a_iconst C0 2 dX6_taleHere_54 rfl ?_
    refine a_icmp_ne C0 84 dX6_taleHere_55 rfl (fun h55 => ?_) (fun h55 => ?_)
    · refine a_iconst C0 0 dX6_taleHere_84 rfl ?_
      have hz : (ndR b n (ndR b n ((true, P, t0) : RS) (P 0 8 < 8)) (nmT b (tkn b n t0) 13 = true)).1 = true → (0 : Int32) = bI (nuT b ((ndR b n (ndR b n ((true, P, t0) : RS) (P 0 8 < 8)) (nmT b (tkn b n t0) 13 = true))).2.2 7) := fun c => by
        have e := nuz h2 h0.2.1 c
        first
          | exact (bI_t (e.mp ⟨h55, Int32.not_lt.mp h68, Int32.not_le.mp h77⟩)).symm
          | exact (bI_f fun q => h55 (e.mpr q).1).symm
          | exact (bI_f fun q => absurd (e.mpr q).2.1 (Int32.not_le.mpr h68)).symm
          | exact (bI_f fun q => absurd (e.mpr q).2.2 (Int32.not_lt.mpr h77)).symm
      refine a_callV _ 1 C0 EM.refl (c_X6_needs l G hz b1 h2 rfl) u_c_X6_needs u_m_X6_108 u_im_X6_needs u_se_X6_needs u_in_X6 hy_X6_needs rfl (lt_b rfl) rfl (hRk rfl) rfl rfl (le_b rfl) dX6_taleHere_85 (k_v fun u85 q85 => ?_)
      obtain ⟨O3, rfl, eW3, h3⟩ := q85
      rw [ndR_c (q := nuT b (tkn b n (tkn b n t0)) 7) fun c => by rw [(e2 c).1]] at h3
      refine AW.sub (ls2 := [(0, _), (1, _), (2, _), (3, _)]) [1, 2, 3, 0] rfl ?_
      refine f88 O3 _ (eW.trans eW3) h3 fun c => ?_
      obtain ⟨d1, d2, d3⟩ := ndR_t c
      have e := (nu_ (m := 7) h2 h0.2.1 d1).2.2
      have hk := (h2.1 d1).2.1
      rw [(e2 d1).1] at e hk
      have e := e d2.1 d2.2.1
      refine ⟨?_, e⟩
      rw [show mkM O1 S X 0 10 = numT b (tkn b n (tkn b n t0)) from e]
      exact (numI hk (k := 7) (by decide) d2).1
    · refine a_aload_n C0 1 dX6_taleHere_58 rfl rfl ?_
      refine g_X6_64 C0 (lt_b rfl) rfl rfl dX6_taleHere_59 ?_
      refine a_aload_n C0 1 dX6_taleHere_62 rfl rfl ?_
      refine g_X6_67 C0 (lt_b rfl) rfl rfl dX6_taleHere_63 ?_
      refine a_isub C0 dX6_taleHere_66 ?_
      refine a_iconst C0 3 dX6_taleHere_67 rfl ?_
      refine a_icmp_gt C0 84 dX6_taleHere_68 rfl (fun h68 => ?_) (fun h68 => ?_)
      · refine a_iconst C0 0 dX6_taleHere_84 rfl ?_
        have hz : (ndR b n (ndR b n ((true, P, t0) : RS) (P 0 8 < 8)) (nmT b (tkn b n t0) 13 = true)).1 = true → (0 : Int32) = bI (nuT b ((ndR b n (ndR b n ((true, P, t0) : RS) (P 0 8 < 8)) (nmT b (tkn b n t0) 13 = true))).2.2 7) := fun c => by
          have e := nuz h2 h0.2.1 c
          first
            | exact (bI_t (e.mp ⟨h55, Int32.not_lt.mp h68, Int32.not_le.mp h77⟩)).symm
            | exact (bI_f fun q => h55 (e.mpr q).1).symm
            | exact (bI_f fun q => absurd (e.mpr q).2.1 (Int32.not_le.mpr h68)).symm
            | exact (bI_f fun q => absurd (e.mpr q).2.2 (Int32.not_lt.mpr h77)).symm
        refine a_callV _ 1 C0 EM.refl (c_X6_needs l G hz b1 h2 rfl) u_c_X6_needs u_m_X6_108 u_im_X6_needs u_se_X6_needs u_in_X6 hy_X6_needs rfl (lt_b rfl) rfl (hRk rfl) rfl rfl (le_b rfl) dX6_taleHere_85 (k_v fun u85 q85 => ?_)
        obtain ⟨O3, rfl, eW3, h3⟩ := q85
        rw [ndR_c (q := nuT b (tkn b n (tkn b n t0)) 7) fun c => by rw [(e2 c).1]] at h3
        refine AW.sub (ls2 := [(0, _), (1, _), (2, _), (3, _)]) [1, 2, 3, 0] rfl ?_
        refine f88 O3 _ (eW.trans eW3) h3 fun c => ?_
        obtain ⟨d1, d2, d3⟩ := ndR_t c
        have e := (nu_ (m := 7) h2 h0.2.1 d1).2.2
        have hk := (h2.1 d1).2.1
        rw [(e2 d1).1] at e hk
        have e := e d2.1 d2.2.1
        refine ⟨?_, e⟩
        rw [show mkM O1 S X 0 10 = numT b (tkn b n (tkn b n t0)) from e]
        exact (numI hk (k := 7) (by decide) d2).1
      · refine a_aload_n C0 1 dX6_taleHere_71 rfl rfl ?_
        refine g_X6_84 C0 (lt_b rfl) rfl rfl dX6_taleHere_72 ?_
        refine a_bipush C0 8 dX6_taleHere_75 rfl ?_
        refine a_icmp_ge C0 84 dX6_taleHere_77 rfl (fun h77 => ?_) (fun h77 => ?_)
        · refine a_iconst C0 0 dX6_taleHere_84 rfl ?_
          have hz : (ndR b n (ndR b n ((true, P, t0) : RS) (P 0 8 < 8)) (nmT b (tkn b n t0) 13 = true)).1 = true → (0 : Int32) = bI (nuT b ((ndR b n (ndR b n ((true, P, t0) : RS) (P 0 8 < 8)) (nmT b (tkn b n t0) 13 = true))).2.2 7) := fun c => by
            have e := nuz h2 h0.2.1 c
            first
              | exact (bI_t (e.mp ⟨h55, Int32.not_lt.mp h68, Int32.not_le.mp h77⟩)).symm
              | exact (bI_f fun q => h55 (e.mpr q).1).symm
              | exact (bI_f fun q => absurd (e.mpr q).2.1 (Int32.not_le.mpr h68)).symm
              | exact (bI_f fun q => absurd (e.mpr q).2.2 (Int32.not_lt.mpr h77)).symm
          refine a_callV _ 1 C0 EM.refl (c_X6_needs l G hz b1 h2 rfl) u_c_X6_needs u_m_X6_108 u_im_X6_needs u_se_X6_needs u_in_X6 hy_X6_needs rfl (lt_b rfl) rfl (hRk rfl) rfl rfl (le_b rfl) dX6_taleHere_85 (k_v fun u85 q85 => ?_)
          obtain ⟨O3, rfl, eW3, h3⟩ := q85
          rw [ndR_c (q := nuT b (tkn b n (tkn b n t0)) 7) fun c => by rw [(e2 c).1]] at h3
          refine AW.sub (ls2 := [(0, _), (1, _), (2, _), (3, _)]) [1, 2, 3, 0] rfl ?_
          refine f88 O3 _ (eW.trans eW3) h3 fun c => ?_
          obtain ⟨d1, d2, d3⟩ := ndR_t c
          have e := (nu_ (m := 7) h2 h0.2.1 d1).2.2
          have hk := (h2.1 d1).2.1
          rw [(e2 d1).1] at e hk
          have e := e d2.1 d2.2.1
          refine ⟨?_, e⟩
          rw [show mkM O1 S X 0 10 = numT b (tkn b n (tkn b n t0)) from e]
          exact (numI hk (k := 7) (by decide) d2).1
        · refine a_iconst C0 1 dX6_taleHere_80 rfl ?_
          refine a_goto C0 85 dX6_taleHere_81 rfl ?_
          have hz : (ndR b n (ndR b n ((true, P, t0) : RS) (P 0 8 < 8)) (nmT b (tkn b n t0) 13 = true)).1 = true → (1 : Int32) = bI (nuT b ((ndR b n (ndR b n ((true, P, t0) : RS) (P 0 8 < 8)) (nmT b (tkn b n t0) 13 = true))).2.2 7) := fun c => by
            have e := nuz h2 h0.2.1 c
            first
              | exact (bI_t (e.mp ⟨h55, Int32.not_lt.mp h68, Int32.not_le.mp h77⟩)).symm
              | exact (bI_f fun q => h55 (e.mpr q).1).symm
              | exact (bI_f fun q => absurd (e.mpr q).2.1 (Int32.not_le.mpr h68)).symm
              | exact (bI_f fun q => absurd (e.mpr q).2.2 (Int32.not_lt.mpr h77)).symm
          refine a_callV _ 1 C0 EM.refl (c_X6_needs l G hz b1 h2 rfl) u_c_X6_needs u_m_X6_108 u_im_X6_needs u_se_X6_needs u_in_X6 hy_X6_needs rfl (lt_b rfl) rfl (hRk rfl) rfl rfl (le_b rfl) dX6_taleHere_85 (k_v fun u85 q85 => ?_)
          obtain ⟨O3, rfl, eW3, h3⟩ := q85
          rw [ndR_c (q := nuT b (tkn b n (tkn b n t0)) 7) fun c => by rw [(e2 c).1]] at h3
          refine AW.sub (ls2 := [(0, _), (1, _), (2, _), (3, _)]) [1, 2, 3, 0] rfl ?_
          refine f88 O3 _ (eW.trans eW3) h3 fun c => ?_
          obtain ⟨d1, d2, d3⟩ := ndR_t c
          have e := (nu_ (m := 7) h2 h0.2.1 d1).2.2
          have hk := (h2.1 d1).2.1
          rw [(e2 d1).1] at e hk
          have e := e d2.1 d2.2.1
          refine ⟨?_, e⟩
          rw [show mkM O1 S X 0 10 = numT b (tkn b n (tkn b n t0)) from e]
          exact (numI hk (k := 7) (by decide) d2).1
  have f32 : ∀ (O1 : RW), EqW O O1 → MR O1 S b n (ndR b n ((true, P, t0) : RS) (P 0 8 < 8)) → AW p l e (rmk 4) s m args below meth c G A 14 ad (shM G ad) 4 0 0 (MQ below (CQ G 14 ad (shM G ad) A (PV (fun u => ∃ O' S', u = mkM O' S' X ∧ EqW O O' ∧ MR O' S' b n (preTale b n k P t0)))) args s 0 0 A) 32 [(0, .ref (ad 0)), (1, .int k), (2, .int (31 + 4 * S 0))] [] (mkM O1 S X) := by
    intro O1 eW h2
    have b1 : BT O1 X b n := h0.eqW eW
    refine a_aload_n C0 0 dX6_taleHere_32 rfl rfl ?_
    refine a_aload_n C0 0 dX6_taleHere_33 rfl rfl ?_
    refine a_bipush C0 97 dX6_taleHere_34 rfl ?_
    refine a_bipush C0 116 dX6_taleHere_36 rfl ?_
    refine a_callV _ 2 C0 EM.refl (c_X6_isTwo l G b1 h2 (ch_ rfl) (ch_ rfl) rfl) u_c_X6_isTwo u_m_X6_112 u_im_X6_isTwo u_se_X6_isTwo u_in_X6 hy_X6_isTwo rfl (lt_b rfl) rfl (hRk rfl) rfl rfl (le_b rfl) dX6_taleHere_38 (k_i fun r38 u38 q38 => ?_)
    obtain ⟨hr38, rfl⟩ := q38
    have e2 : (ndR b n ((true, P, t0) : RS) (P 0 8 < 8)).1 = true → (ndR b n ((true, P, t0) : RS) (P 0 8 < 8)).2.2 = tkn b n t0 := fun c => congrArg (fun q : RS => q.2.2) (ndR_t c).2.2
    have hz : (ndR b n ((true, P, t0) : RS) (P 0 8 < 8)).1 = true → r38 = bI (nmT b (tkn b n t0) 13 = true) := fun c => by
      rw [hr38 c, e2 c]
      exact bI_c nm_13.symm
    refine a_callV _ 1 C0 EM.refl (c_X6_needs l G hz b1 h2 rfl) u_c_X6_needs u_m_X6_108 u_im_X6_needs u_se_X6_needs u_in_X6 hy_X6_needs rfl (lt_b rfl) rfl (hRk rfl) rfl rfl (le_b rfl) dX6_taleHere_41 (k_v fun u41 q41 => ?_)
    obtain ⟨O3, rfl, eW3, h3⟩ := q41
    exact f44 O3 (eW.trans eW3) h3
  refine a_bipush C0 31 dX6_taleHere_0 rfl ?_
  refine a_iconst C0 4 dX6_taleHere_2 rfl ?_
  refine a_aload_n C0 0 dX6_taleHere_3 rfl rfl ?_
  refine g_X6_7 C0 (lt_b rfl) rfl rfl dX6_taleHere_4 ?_
  refine a_iconst C0 0 dX6_taleHere_7 rfl ?_
  refine a_iald C0 0 (lt_b rfl) rfl (vq rfl) rfl dX6_taleHere_8 ?_
  refine a_imul C0 dX6_taleHere_9 ?_
  refine a_iadd C0 dX6_taleHere_10 ?_
  refine a_istore_n (ls2 := [(2, _), (0, _), (1, _)]) C0 dX6_taleHere_11 rfl (lt_b rfl) rfl ?_
  have h1 : MR O S b n ((true, P, t0) : RS) := MR.right g11 gk gr
  have eP : S 0 = P 0 8 := gr.n2.trans gr.n1.symm
  refine a_aload_n C0 1 dX6_taleHere_12 rfl rfl ?_
  refine a_aload_n C0 1 dX6_taleHere_13 rfl rfl ?_
  refine g_X6_7 C0 (lt_b rfl) rfl rfl dX6_taleHere_14 ?_
  refine a_iconst C0 0 dX6_taleHere_17 rfl ?_
  refine a_iald C0 0 (lt_b rfl) rfl (vq rfl) rfl dX6_taleHere_18 ?_
  refine a_bipush C0 8 dX6_taleHere_19 rfl ?_
  refine a_icmp_ge C0 28 dX6_taleHere_21 rfl (fun h21 => ?_) (fun h21 => ?_)
  · refine a_iconst C0 0 dX6_taleHere_28 rfl ?_
    have hz : ((true, P, t0) : RS).1 = true → (0 : Int32) = bI (P 0 8 < 8) := fun _ => (bI_f fun q => absurd q (Int32.not_lt.mpr (by rw [← eP]; exact h21))).symm
    refine a_callV _ 1 C0 EM.refl (c_X6_needs l G hz h0 h1 rfl) u_c_X6_needs u_m_X6_108 u_im_X6_needs u_se_X6_needs u_in_X6 hy_X6_needs rfl (lt_b rfl) rfl (hRk rfl) rfl rfl (le_b rfl) dX6_taleHere_29 (k_v fun u29 q29 => ?_)
    obtain ⟨O3, rfl, eW3, h3⟩ := q29
    refine AW.sub (ls2 := [(0, _), (1, _), (2, _)]) [1, 2, 0] rfl ?_
    exact f32 O3 eW3 h3
  · refine a_iconst C0 1 dX6_taleHere_24 rfl ?_
    refine a_goto C0 29 dX6_taleHere_25 rfl ?_
    have hz : ((true, P, t0) : RS).1 = true → (1 : Int32) = bI (P 0 8 < 8) := fun _ => (bI_t (by rw [← eP]; exact Int32.not_le.mp h21)).symm
    refine a_callV _ 1 C0 EM.refl (c_X6_needs l G hz h0 h1 rfl) u_c_X6_needs u_m_X6_108 u_im_X6_needs u_se_X6_needs u_in_X6 hy_X6_needs rfl (lt_b rfl) rfl (hRk rfl) rfl rfl (le_b rfl) dX6_taleHere_29 (k_v fun u29 q29 => ?_)
    obtain ⟨O3, rfl, eW3, h3⟩ := q29
    refine AW.sub (ls2 := [(0, _), (1, _), (2, _)]) [1, 2, 0] rfl ?_
    exact f32 O3 eW3 h3
