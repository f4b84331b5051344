
/-- a token not before another -/
def TG (b : RW) (n : Nat) (t0 t : Tk) : Prop := t0.2.1 ≤ t.2.1 ∧ ∃ e, e ≤ n ∧ t = tk b n e
def TGR (b : RW) (n : Nat) (t0 : Tk) (R : RS) : Prop := R.1 = true → TG b n t0 R.2.2
theorem TG.le {b : RW} {n : Nat} {t0 t : Tk} (h : TG b n t0 t) : t.2.1 ≤ t.2.2 ∧ t.2.2 ≤ n ∧ (t.1 ≠ 0 → t.2.1 < t.2.2) := by
  obtain ⟨-, e, he, rfl⟩ := h
  have q := tk_le (b := b) he
  exact ⟨q.2.2.2.1, q.2.2.2.2.1, q.2.2.2.2.2.2.2⟩
theorem TG.next {b : RW} {n : Nat} {t0 t : Tk} (h : TG b n t0 t) : TG b n t0 (tkn b n t) := by
  have q := h.le
  have z := (tk_le (b := b) q.2.1).2.1
  exact ⟨Nat.le_trans h.1 (Nat.le_trans q.1 z), _, q.2.1, rfl⟩
theorem TGR.nd {b : RW} {n : Nat} {t0 : Tk} {R : RS} {q : Prop} [Decidable q] (h : TGR b n t0 R) : TGR b n t0 (ndR b n R q) := fun c => by
  obtain ⟨a1, a2, a3⟩ := ndR_t c
  rw [a3]
  exact (h a1).next
theorem TGR.nu {b : RW} {n : Nat} {t0 : Tk} {R : RS} {m : Int32} {P' : WM} (h : TGR b n t0 R) : TGR b n t0 (nuR b n R m P') := fun c => by
  unfold nuR at c ⊢
  by_cases d : R.1 = true ∧ nuT b R.2.2 m
  · rw [if_pos d]
    exact (h d.1).next
  · rw [if_neg d] at c
    exact absurd c Bool.false_ne_true
theorem TGR.mk {b : RW} {n : Nat} {t0 t : Tk} {x : Bool} {P : WM} (h : TG b n t0 t) : TGR b n t0 (x, P, t) := fun _ => h
theorem pre_ge {b : RW} {n : Nat} {t0 : Tk} {P : WM} (g : TG b n t0 t0) : TGR b n t0 (preSent b n P t0) := by
  have hh : ∀ row top, TGR b n t0 (preHouse b n row top P t0) := fun row top => (TGR.mk g.next).nd.nd.nu
  unfold preSent
  split
  · split
    · split
      · exact hh _ _
      · split
        · exact hh _ _
        · split
          · unfold preBox
            split
            · exact TGR.mk g.next.next
            · exact TGR.mk g.next
          · exact TGR.mk g
    · exact (TGR.mk g.next).nu
  · unfold preTale
    split
    · split
      · exact (TGR.mk g.next.next.next.next).nu
      · exact TGR.mk g.next.next.next
    · exact (TGR.mk g).nd.nd.nd
theorem rs_ge {b : RW} {n : Nat} {t0 : Tk} {P : WM} (g : TG b n t0 t0) (h : (rdSent b n P t0).1 = true) : t0.2.1 < (rdSent b n P t0).2.2.2.1 := by
  rw [rd_sent] at h ⊢
  obtain ⟨a1, a2, a3⟩ := ndR_t h
  have q := pre_ge g a1
  have l := q.le
  have z := (tk_le (b := b) l.2.1).2.1
  have l2 := l.2.2 (by rw [a2.1]; decide)
  rw [show smR b n (preSent b n P t0) = _ from a3]
  show t0.2.1 < (tk b n (preSent b n P t0).2.2.2.2).2.1
  have := q.1
  omega
theorem TG.rf {O b : RW} {n : Nat} {t : Tk} (h : MTK O b n t) : TG b n t t := ⟨Nat.le_refl _, h.2.2.2.2⟩
theorem lw_top : ∀ j, j < 4 → (if nI (3 + j) - 3 < 2 then (9 : Int32) else 99) = topL (nI j) ∧ ∃ m, m ≤ 99 ∧ topL (nI j) = nI m := by
  intro j hj
  match j, hj with
  | 0, _ => exact ⟨by decide +kernel, 9, by decide, by decide +kernel⟩
  | 1, _ => exact ⟨by decide +kernel, 9, by decide, by decide +kernel⟩
  | 2, _ => exact ⟨by decide +kernel, 99, by decide, by decide +kernel⟩
  | 3, _ => exact ⟨by decide +kernel, 99, by decide, by decide +kernel⟩
theorem ng_ {j : Nat} (h : j < 1000) : ¬ nI j < 0 := Int32.not_lt.mpr (nI_leI (a := 0) (by decide) (by omega) |>.mpr (Nat.zero_le j))

set_option maxRecDepth 100000 in
set_option maxHeartbeats 4000000 in
theorem c_X6_itemHere (l : Launch) (G : GE) {ad : Nat → Nat} {M : WM} {O S : RW} {X : WM} {b : RW} {n : Nat} {t0 : Tk} {P : WM} {T : Nat} (h0 : BT O X b n) (g11 : O 11 = 0) (gk : MTK O b n t0) (gr : RP P S T 0) (hM : M = mkM O S X)  : CT l G yX6_itemHere cX6_itemHere 3 none 5 [.ref (ad 0)] 14 ad (shM G ad) M (PV (fun u => ∃ O' S', u = mkM O' S' X ∧ EqW O O' ∧ MR O' S' b n (rdSent b n P t0))) := by
  refine CT.of (own := RX6) rfl rfl (le_b rfl) fun p e s m args below meth c A C0 hr => ?_
  refine AW.lo (ls2 := [(0, _)]) rfl ?_
  subst hM
  have f142 : ∀ (O1 S1 : RW), EqW O O1 → MR O1 S1 b n (preSent b n P t0) → AW p l e (rmk 5) s m args below meth c G A 14 ad (shM G ad) 3 0 0 (MQ below (CQ G 14 ad (shM G ad) A (PV (fun u => ∃ O' S', u = mkM O' S' X ∧ EqW O O' ∧ MR O' S' b n (rdSent b n P t0)))) args s 0 0 A) 142 [(0, .ref (ad 0))] [] (mkM O1 S1 X) := by
    intro O1 S1 eW h1
    have b1 : BT O1 X b n := h0.eqW eW
    have hz3 : (preSent b n P t0).1 = true → (O1 7 = 3 ↔ (preSent b n P t0).2.2.1 = 3) ∧ ((preSent b n P t0).2.2.1 = 3 → (preSent b n P t0).2.2.2.1 < n) := fun c => by
      have hk := (h1.1 c).2.1
      have z := hk.le
      refine ⟨?_, z.2.2.2.2.1⟩
      rw [hk.1]
      exact nI_eq (b := 3) (by omega) (by decide)
    refine a_aload_n C0 0 dX6_itemHere_142 rfl rfl ?_
    refine a_aload_n C0 0 dX6_itemHere_143 rfl rfl ?_
    refine g_X6_81 C0 (lt_b rfl) rfl rfl dX6_itemHere_144 ?_
    refine a_iconst C0 3 dX6_itemHere_147 rfl ?_
    refine a_icmp_ne C0 168 dX6_itemHere_148 rfl (fun h148 => ?_) (fun h148 => ?_)
    · refine a_iconst C0 0 dX6_itemHere_168 rfl ?_
      have hz : (preSent b n P t0).1 = true → (0 : Int32) = bI ((preSent b n P t0).2.2.1 = 3 ∧ b (preSent b n P t0).2.2.2.1 = 59) := fun c => by
        obtain ⟨z1, z2⟩ := hz3 c
        first
          | exact (bI_f fun q => h148 (z1.mpr q.1)).symm
          | exact (bI_f fun q => h161 ((by_ b1.2.2 (z2 q.1) (ch_ rfl)).mpr q.2)).symm
          | exact (bI_t ⟨z1.mp h148, (by_ b1.2.2 (z2 (z1.mp h148)) (ch_ rfl)).mp h161⟩).symm
      refine a_callV _ 1 C0 EM.refl (c_X6_needs l G hz b1 h1 rfl) u_c_X6_needs u_m_X6_108 u_im_X6_needs u_se_X6_needs u_in_X6 hy_X6_needs rfl (lt_b rfl) rfl (hRk rfl) rfl rfl (le_b rfl) dX6_itemHere_169 (k_v fun u169 q169 => ?_)
      obtain ⟨O4, rfl, eW4, h4⟩ := q169
      refine a_vret C0 hr dX6_itemHere_172 ?_
      refine ⟨rfl, O4, S1, rfl, eW.trans eW4, ?_⟩
      rw [rd_sent]
      exact h4
    · refine a_aload_n C0 0 dX6_itemHere_151 rfl rfl ?_
      refine a_aload_n C0 0 dX6_itemHere_152 rfl rfl ?_
      refine g_X6_67 C0 (lt_b rfl) rfl rfl dX6_itemHere_153 ?_
      refine a_callV _ 1 C0 EM.refl (c_X6_byteAt l G b1.1 b1.2.1 h1.2.2.1 (by have := h1.2.2.2; have := b1.2.1; omega) rfl) u_c_X6_byteAt u_m_X6_70 u_im_X6_byteAt u_se_X6_byteAt u_in_X6 hy_X6_byteAt rfl (lt_b rfl) rfl (hRk rfl) rfl rfl (le_b rfl) dX6_itemHere_156 (k_ro EM.refl ?_)
      refine a_bipush C0 59 dX6_itemHere_159 rfl ?_
      refine a_icmp_ne C0 168 dX6_itemHere_161 rfl (fun h161 => ?_) (fun h161 => ?_)
      · refine a_iconst C0 0 dX6_itemHere_168 rfl ?_
        have hz : (preSent b n P t0).1 = true → (0 : Int32) = bI ((preSent b n P t0).2.2.1 = 3 ∧ b (preSent b n P t0).2.2.2.1 = 59) := fun c => by
          obtain ⟨z1, z2⟩ := hz3 c
          first
            | exact (bI_f fun q => h148 (z1.mpr q.1)).symm
            | exact (bI_f fun q => h161 ((by_ b1.2.2 (z2 q.1) (ch_ rfl)).mpr q.2)).symm
            | exact (bI_t ⟨z1.mp h148, (by_ b1.2.2 (z2 (z1.mp h148)) (ch_ rfl)).mp h161⟩).symm
        refine a_callV _ 1 C0 EM.refl (c_X6_needs l G hz b1 h1 rfl) u_c_X6_needs u_m_X6_108 u_im_X6_needs u_se_X6_needs u_in_X6 hy_X6_needs rfl (lt_b rfl) rfl (hRk rfl) rfl rfl (le_b rfl) dX6_itemHere_169 (k_v fun u169 q169 => ?_)
        obtain ⟨O4, rfl, eW4, h4⟩ := q169
        refine a_vret C0 hr dX6_itemHere_172 ?_
        refine ⟨rfl, O4, S1, rfl, eW.trans eW4, ?_⟩
        rw [rd_sent]
        exact h4
      · refine a_iconst C0 1 dX6_itemHere_164 rfl ?_
        refine a_goto C0 169 dX6_itemHere_165 rfl ?_
        have hz : (preSent b n P t0).1 = true → (1 : Int32) = bI ((preSent b n P t0).2.2.1 = 3 ∧ b (preSent b n P t0).2.2.2.1 = 59) := fun c => by
          obtain ⟨z1, z2⟩ := hz3 c
          first
            | exact (bI_f fun q => h148 (z1.mpr q.1)).symm
            | exact (bI_f fun q => h161 ((by_ b1.2.2 (z2 q.1) (ch_ rfl)).mpr q.2)).symm
            | exact (bI_t ⟨z1.mp h148, (by_ b1.2.2 (z2 (z1.mp h148)) (ch_ rfl)).mp h161⟩).symm
        refine a_callV _ 1 C0 EM.refl (c_X6_needs l G hz b1 h1 rfl) u_c_X6_needs u_m_X6_108 u_im_X6_needs u_se_X6_needs u_in_X6 hy_X6_needs rfl (lt_b rfl) rfl (hRk rfl) rfl rfl (le_b rfl) dX6_itemHere_169 (k_v fun u169 q169 => ?_)
        obtain ⟨O4, rfl, eW4, h4⟩ := q169
        refine a_vret C0 hr dX6_itemHere_172 ?_
        refine ⟨rfl, O4, S1, rfl, eW.trans eW4, ?_⟩
        rw [rd_sent]
        exact h4
  have hk := gk
  have tk0 : TG b n t0 t0 := TG.rf gk
  refine a_aload_n C0 0 dX6_itemHere_0 rfl rfl ?_
  refine a_callV _ 0 C0 EM.refl (c_X6_kindHere l G h0 hk rfl) u_c_X6_kindHere u_m_X6_124 u_im_X6_kindHere u_se_X6_kindHere u_in_X6 hy_X6_kindHere rfl (lt_b rfl) rfl (hRk rfl) rfl rfl (le_b rfl) dX6_itemHere_1 (k_ro EM.refl ?_)
  refine a_istore_n (ls2 := [(1, _), (0, _)]) C0 dX6_itemHere_4 rfl (lt_b rfl) rfl ?_
  refine a_aload_n C0 1 dX6_itemHere_5 rfl rfl ?_
  refine a_callV _ 0 C0 EM.refl (c_X6_lawHere l G h0 hk rfl) u_c_X6_lawHere u_m_X6_128 u_im_X6_lawHere u_se_X6_lawHere u_in_X6 hy_X6_lawHere rfl (lt_b rfl) rfl (hRk rfl) rfl rfl (le_b rfl) dX6_itemHere_6 (k_ro EM.refl ?_)
  refine a_istore_n (ls2 := [(2, _), (1, _), (0, _)]) C0 dX6_itemHere_9 rfl (lt_b rfl) rfl ?_
  refine a_iload_n C0 1 dX6_itemHere_10 rfl rfl ?_
  refine a_if_lt C0 22 dX6_itemHere_11 rfl (fun h11 => ?_) (fun h11 => ?_)
  · have k1 : kdT b t0 = -1 := by
      rcases kd_M (b := b) (t := t0) with q | ⟨j, hj, q⟩
      · exact q
      · rw [q] at h11
        exact absurd h11 (ng_ (by omega))
    refine a_iload_n C0 0 dX6_itemHere_22 rfl rfl ?_
    refine a_if_lt C0 44 dX6_itemHere_23 rfl (fun h23 => ?_) (fun h23 => ?_)
    · have l1 : lwT b t0 = -1 := by
        rcases lw_M (b := b) (t := t0) with q | ⟨j, hj, q1, q2⟩
        · exact q.1
        · rw [q2] at h23
          exact absurd h23 (ng_ (by omega))
      refine a_aload_n C0 2 dX6_itemHere_44 rfl rfl ?_
      refine a_bipush C0 6 dX6_itemHere_45 rfl ?_
      refine a_bipush C0 102 dX6_itemHere_47 rfl ?_
      refine a_bipush C0 114 dX6_itemHere_49 rfl ?_
      refine a_bipush C0 105 dX6_itemHere_51 rfl ?_
      refine a_bipush C0 100 dX6_itemHere_53 rfl ?_
      refine a_callV _ 5 C0 EM.refl (c_X6_isName l G (L := 6) h0 hk rfl (by decide) (ch_ rfl) (ch_ rfl) (ch_ rfl) (ch_ rfl) rfl) u_c_X6_isName u_m_X6_94 u_im_X6_isName u_se_X6_isName u_in_X6 hy_X6_isName rfl (lt_b rfl) rfl (hRk rfl) rfl rfl (le_b rfl) dX6_itemHere_55 (k_ro EM.refl ?_)
      refine a_if_eqb C0 86 dX6_itemHere_58 rfl (fun h58 => ?_) (fun h58 => ?_)
      · have n10 : ¬ nmT b t0 10 = true := fun q => by
          have q := nm_10.mp q
          first
            | exact h58 ⟨q.1, q.2.1, q.2.2.1, q.2.2.2.1, q.2.2.2.2.1, q.2.2.2.2.2.2.2⟩
            | exact h72 ⟨q.2.2.2.2.2.1, q.2.2.2.2.2.2.1, q.2.2.2.2.2.2.2⟩
        refine a_aload_n C0 2 dX6_itemHere_86 rfl rfl ?_
        refine a_bipush C0 116 dX6_itemHere_87 rfl ?_
        refine a_bipush C0 97 dX6_itemHere_89 rfl ?_
        refine a_bipush C0 115 dX6_itemHere_91 rfl ?_
        refine a_bipush C0 116 dX6_itemHere_93 rfl ?_
        refine a_bipush C0 101 dX6_itemHere_95 rfl ?_
        refine a_callV _ 5 C0 EM.refl (c_X6_isFive l G h0 hk (ch_ rfl) (ch_ rfl) (ch_ rfl) (ch_ rfl) (ch_ rfl) rfl) u_c_X6_isFive u_m_X6_105 u_im_X6_isFive u_se_X6_isFive u_in_X6 hy_X6_isFive rfl (lt_b rfl) rfl (hRk rfl) rfl rfl (le_b rfl) dX6_itemHere_97 (k_ro EM.refl ?_)
        refine a_if_eqb C0 114 dX6_itemHere_100 rfl (fun h100 => ?_) (fun h100 => ?_)
        · have n11 : ¬ nmT b t0 11 = true := fun q => h100 (nm_11.mp q)
          refine a_aload_n C0 2 dX6_itemHere_114 rfl rfl ?_
          refine a_iconst C0 3 dX6_itemHere_115 rfl ?_
          refine a_bipush C0 98 dX6_itemHere_116 rfl ?_
          refine a_bipush C0 111 dX6_itemHere_118 rfl ?_
          refine a_bipush C0 120 dX6_itemHere_120 rfl ?_
          refine a_bipush C0 120 dX6_itemHere_122 rfl ?_
          refine a_callV _ 5 C0 EM.refl (c_X6_isName l G (L := 3) h0 hk rfl (by decide) (ch_ rfl) (ch_ rfl) (ch_ rfl) (ch_ rfl) rfl) u_c_X6_isName u_m_X6_94 u_im_X6_isName u_se_X6_isName u_in_X6 hy_X6_isName rfl (lt_b rfl) rfl (hRk rfl) rfl rfl (le_b rfl) dX6_itemHere_124 (k_ro EM.refl ?_)
          refine a_if_eqb C0 137 dX6_itemHere_127 rfl (fun h127 => ?_) (fun h127 => ?_)
          · have n12 : ¬ nmT b t0 12 = true := fun q => by
              have q := nm_12.mp q
              exact h127 ⟨q.1, q.2.1, q.2.2.1, q.2.2.2.1, q.2.2.2.2, q.2.2.2.2⟩
            have h1 : MR O S b n ((true, P, t0) : RS) := MR.right g11 gk gr
            refine a_aload_n C0 2 dX6_itemHere_137 rfl rfl ?_
            refine a_iconst C0 0 dX6_itemHere_138 rfl ?_
            refine a_callV _ 1 C0 EM.refl (c_X6_needs l G (q := False) (fun _ => rfl) h0 h1 rfl) u_c_X6_needs u_m_X6_108 u_im_X6_needs u_se_X6_needs u_in_X6 hy_X6_needs rfl (lt_b rfl) rfl (hRk rfl) rfl rfl (le_b rfl) dX6_itemHere_139 (k_v fun u139 q139 => ?_)
            obtain ⟨O3, rfl, eW3, h3⟩ := q139
            rw [ndR_n (fun q => q)] at h3
            refine AW.sub (ls2 := [(0, _)]) [2] rfl ?_
            first
              | exact f142 _ _ eW3 (by unfold preSent; rw [if_neg nk]; exact h3)
              | exact f142 _ _ (eT.w.trans eW3) (by unfold preSent; rw [if_pos k1, if_neg nl]; exact h3)
              | exact f142 _ _ eW3 (by unfold preSent; rw [if_pos k1, if_pos l1, if_pos y10]; exact h3)
              | exact f142 _ _ eW3 (by unfold preSent; rw [if_pos k1, if_pos l1, if_neg n10, if_pos y11]; exact h3)
              | exact f142 _ _ eW3 (by unfold preSent; rw [if_pos k1, if_pos l1, if_neg n10, if_neg n11, if_pos y12]; exact h3)
              | exact f142 _ _ eW3 (by unfold preSent; rw [if_pos k1, if_pos l1, if_neg n10, if_neg n11, if_neg n12]; exact h3)
          · have y12 : nmT b t0 12 = true := nm_12.mpr ⟨h127.1, h127.2.1, h127.2.2.1, h127.2.2.2.1, h127.2.2.2.2.1⟩
            refine a_aload_n C0 2 dX6_itemHere_130 rfl rfl ?_
            refine a_callV _ 0 C0 EM.refl (c_X6_boxHere l G h0 g11 gk gr rfl) u_c_X6_boxHere u_m_X6_141 u_im_X6_boxHere u_se_X6_boxHere u_in_X6 hy_X6_boxHere rfl (lt_b rfl) rfl (hRk rfl) rfl rfl (le_b rfl) dX6_itemHere_131 (k_v fun u131 q131 => ?_)
            obtain ⟨O3, S3, rfl, eW3, h3⟩ := q131
            refine a_goto C0 142 dX6_itemHere_134 rfl ?_
            refine AW.sub (ls2 := [(0, _)]) [2] rfl ?_
            first
              | exact f142 _ _ eW3 (by unfold preSent; rw [if_neg nk]; exact h3)
              | exact f142 _ _ (eT.w.trans eW3) (by unfold preSent; rw [if_pos k1, if_neg nl]; exact h3)
              | exact f142 _ _ eW3 (by unfold preSent; rw [if_pos k1, if_pos l1, if_pos y10]; exact h3)
              | exact f142 _ _ eW3 (by unfold preSent; rw [if_pos k1, if_pos l1, if_neg n10, if_pos y11]; exact h3)
              | exact f142 _ _ eW3 (by unfold preSent; rw [if_pos k1, if_pos l1, if_neg n10, if_neg n11, if_pos y12]; exact h3)
              | exact f142 _ _ eW3 (by unfold preSent; rw [if_pos k1, if_pos l1, if_neg n10, if_neg n11, if_neg n12]; exact h3)
        · have y11 : nmT b t0 11 = true := nm_11.mpr h100
          refine a_aload_n C0 2 dX6_itemHere_103 rfl rfl ?_
          refine a_bipush C0 15 dX6_itemHere_104 rfl ?_
          refine a_bipush C0 99 dX6_itemHere_106 rfl ?_
          refine a_callV _ 2 C0 EM.refl (c_X6_ofHouse l G h0 g11 gk gr (row := 15) (rc := 3) (mn := 99) rfl (by decide) rfl (by decide) (fun T y v hy hv r => r.ta' (vp_lt hy)) rfl) u_c_X6_ofHouse u_m_X6_138 u_im_X6_ofHouse u_se_X6_ofHouse u_in_X6 hy_X6_ofHouse rfl (lt_b rfl) rfl (hRk rfl) rfl rfl (le_b rfl) dX6_itemHere_108 (k_v fun u108 q108 => ?_)
          obtain ⟨O3, S3, rfl, eW3, h3⟩ := q108
          refine a_goto C0 142 dX6_itemHere_111 rfl ?_
          refine AW.sub (ls2 := [(0, _)]) [2] rfl ?_
          first
            | exact f142 _ _ eW3 (by unfold preSent; rw [if_neg nk]; exact h3)
            | exact f142 _ _ (eT.w.trans eW3) (by unfold preSent; rw [if_pos k1, if_neg nl]; exact h3)
            | exact f142 _ _ eW3 (by unfold preSent; rw [if_pos k1, if_pos l1, if_pos y10]; exact h3)
            | exact f142 _ _ eW3 (by unfold preSent; rw [if_pos k1, if_pos l1, if_neg n10, if_pos y11]; exact h3)
            | exact f142 _ _ eW3 (by unfold preSent; rw [if_pos k1, if_pos l1, if_neg n10, if_neg n11, if_pos y12]; exact h3)
            | exact f142 _ _ eW3 (by unfold preSent; rw [if_pos k1, if_pos l1, if_neg n10, if_neg n11, if_neg n12]; exact h3)
      · refine a_aload_n C0 2 dX6_itemHere_61 rfl rfl ?_
        refine a_iconst C0 3 dX6_itemHere_62 rfl ?_
        refine a_bipush C0 101 dX6_itemHere_63 rfl ?_
        refine a_bipush C0 110 dX6_itemHere_65 rfl ?_
        refine a_bipush C0 100 dX6_itemHere_67 rfl ?_
        refine a_callV _ 4 C0 EM.refl (c_X6_isSame l G (j := 3) h0 hk rfl (by have := h58.2.1; have := hk.le; omega) (ch_ rfl) (ch_ rfl) (ch_ rfl) rfl) u_c_X6_isSame u_m_X6_102 u_im_X6_isSame u_se_X6_isSame u_in_X6 hy_X6_isSame rfl (lt_b rfl) rfl (hRk rfl) rfl rfl (le_b rfl) dX6_itemHere_69 (k_ro EM.refl ?_)
        refine a_if_eqb C0 86 dX6_itemHere_72 rfl (fun h72 => ?_) (fun h72 => ?_)
        · have n10 : ¬ nmT b t0 10 = true := fun q => by
            have q := nm_10.mp q
            first
              | exact h58 ⟨q.1, q.2.1, q.2.2.1, q.2.2.2.1, q.2.2.2.2.1, q.2.2.2.2.2.2.2⟩
              | exact h72 ⟨q.2.2.2.2.2.1, q.2.2.2.2.2.2.1, q.2.2.2.2.2.2.2⟩
          refine a_aload_n C0 2 dX6_itemHere_86 rfl rfl ?_
          refine a_bipush C0 116 dX6_itemHere_87 rfl ?_
          refine a_bipush C0 97 dX6_itemHere_89 rfl ?_
          refine a_bipush C0 115 dX6_itemHere_91 rfl ?_
          refine a_bipush C0 116 dX6_itemHere_93 rfl ?_
          refine a_bipush C0 101 dX6_itemHere_95 rfl ?_
          refine a_callV _ 5 C0 EM.refl (c_X6_isFive l G h0 hk (ch_ rfl) (ch_ rfl) (ch_ rfl) (ch_ rfl) (ch_ rfl) rfl) u_c_X6_isFive u_m_X6_105 u_im_X6_isFive u_se_X6_isFive u_in_X6 hy_X6_isFive rfl (lt_b rfl) rfl (hRk rfl) rfl rfl (le_b rfl) dX6_itemHere_97 (k_ro EM.refl ?_)
          refine a_if_eqb C0 114 dX6_itemHere_100 rfl (fun h100 => ?_) (fun h100 => ?_)
          · have n11 : ¬ nmT b t0 11 = true := fun q => h100 (nm_11.mp q)
            refine a_aload_n C0 2 dX6_itemHere_114 rfl rfl ?_
            refine a_iconst C0 3 dX6_itemHere_115 rfl ?_
            refine a_bipush C0 98 dX6_itemHere_116 rfl ?_
            refine a_bipush C0 111 dX6_itemHere_118 rfl ?_
            refine a_bipush C0 120 dX6_itemHere_120 rfl ?_
            refine a_bipush C0 120 dX6_itemHere_122 rfl ?_
            refine a_callV _ 5 C0 EM.refl (c_X6_isName l G (L := 3) h0 hk rfl (by decide) (ch_ rfl) (ch_ rfl) (ch_ rfl) (ch_ rfl) rfl) u_c_X6_isName u_m_X6_94 u_im_X6_isName u_se_X6_isName u_in_X6 hy_X6_isName rfl (lt_b rfl) rfl (hRk rfl) rfl rfl (le_b rfl) dX6_itemHere_124 (k_ro EM.refl ?_)
            refine a_if_eqb C0 137 dX6_itemHere_127 rfl (fun h127 => ?_) (fun h127 => ?_)
            · have n12 : ¬ nmT b t0 12 = true := fun q => by
                have q := nm_12.mp q
                exact h127 ⟨q.1, q.2.1, q.2.2.1, q.2.2.2.1, q.2.2.2.2, q.2.2.2.2⟩
              have h1 : MR O S b n ((true, P, t0) : RS) := MR.right g11 gk gr
              refine a_aload_n C0 2 dX6_itemHere_137 rfl rfl ?_
              refine a_iconst C0 0 dX6_itemHere_138 rfl ?_
              refine a_callV _ 1 C0 EM.refl (c_X6_needs l G (q := False) (fun _ => rfl) h0 h1 rfl) u_c_X6_needs u_m_X6_108 u_im_X6_needs u_se_X6_needs u_in_X6 hy_X6_needs rfl (lt_b rfl) rfl (hRk rfl) rfl rfl (le_b rfl) dX6_itemHere_139 (k_v fun u139 q139 => ?_)
              obtain ⟨O3, rfl, eW3, h3⟩ := q139
              rw [ndR_n (fun q => q)] at h3
              refine AW.sub (ls2 := [(0, _)]) [2] rfl ?_
              first
                | exact f142 _ _ eW3 (by unfold preSent; rw [if_neg nk]; exact h3)
                | exact f142 _ _ (eT.w.trans eW3) (by unfold preSent; rw [if_pos k1, if_neg nl]; exact h3)
                | exact f142 _ _ eW3 (by unfold preSent; rw [if_pos k1, if_pos l1, if_pos y10]; exact h3)
                | exact f142 _ _ eW3 (by unfold preSent; rw [if_pos k1, if_pos l1, if_neg n10, if_pos y11]; exact h3)
                | exact f142 _ _ eW3 (by unfold preSent; rw [if_pos k1, if_pos l1, if_neg n10, if_neg n11, if_pos y12]; exact h3)
                | exact f142 _ _ eW3 (by unfold preSent; rw [if_pos k1, if_pos l1, if_neg n10, if_neg n11, if_neg n12]; exact h3)
            · have y12 : nmT b t0 12 = true := nm_12.mpr ⟨h127.1, h127.2.1, h127.2.2.1, h127.2.2.2.1, h127.2.2.2.2.1⟩
              refine a_aload_n C0 2 dX6_itemHere_130 rfl rfl ?_
              refine a_callV _ 0 C0 EM.refl (c_X6_boxHere l G h0 g11 gk gr rfl) u_c_X6_boxHere u_m_X6_141 u_im_X6_boxHere u_se_X6_boxHere u_in_X6 hy_X6_boxHere rfl (lt_b rfl) rfl (hRk rfl) rfl rfl (le_b rfl) dX6_itemHere_131 (k_v fun u131 q131 => ?_)
              obtain ⟨O3, S3, rfl, eW3, h3⟩ := q131
              refine a_goto C0 142 dX6_itemHere_134 rfl ?_
              refine AW.sub (ls2 := [(0, _)]) [2] rfl ?_
              first
                | exact f142 _ _ eW3 (by unfold preSent; rw [if_neg nk]; exact h3)
                | exact f142 _ _ (eT.w.trans eW3) (by unfold preSent; rw [if_pos k1, if_neg nl]; exact h3)
                | exact f142 _ _ eW3 (by unfold preSent; rw [if_pos k1, if_pos l1, if_pos y10]; exact h3)
                | exact f142 _ _ eW3 (by unfold preSent; rw [if_pos k1, if_pos l1, if_neg n10, if_pos y11]; exact h3)
                | exact f142 _ _ eW3 (by unfold preSent; rw [if_pos k1, if_pos l1, if_neg n10, if_neg n11, if_pos y12]; exact h3)
                | exact f142 _ _ eW3 (by unfold preSent; rw [if_pos k1, if_pos l1, if_neg n10, if_neg n11, if_neg n12]; exact h3)
          · have y11 : nmT b t0 11 = true := nm_11.mpr h100
            refine a_aload_n C0 2 dX6_itemHere_103 rfl rfl ?_
            refine a_bipush C0 15 dX6_itemHere_104 rfl ?_
            refine a_bipush C0 99 dX6_itemHere_106 rfl ?_
            refine a_callV _ 2 C0 EM.refl (c_X6_ofHouse l G h0 g11 gk gr (row := 15) (rc := 3) (mn := 99) rfl (by decide) rfl (by decide) (fun T y v hy hv r => r.ta' (vp_lt hy)) rfl) u_c_X6_ofHouse u_m_X6_138 u_im_X6_ofHouse u_se_X6_ofHouse u_in_X6 hy_X6_ofHouse rfl (lt_b rfl) rfl (hRk rfl) rfl rfl (le_b rfl) dX6_itemHere_108 (k_v fun u108 q108 => ?_)
            obtain ⟨O3, S3, rfl, eW3, h3⟩ := q108
            refine a_goto C0 142 dX6_itemHere_111 rfl ?_
            refine AW.sub (ls2 := [(0, _)]) [2] rfl ?_
            first
              | exact f142 _ _ eW3 (by unfold preSent; rw [if_neg nk]; exact h3)
              | exact f142 _ _ (eT.w.trans eW3) (by unfold preSent; rw [if_pos k1, if_neg nl]; exact h3)
              | exact f142 _ _ eW3 (by unfold preSent; rw [if_pos k1, if_pos l1, if_pos y10]; exact h3)
              | exact f142 _ _ eW3 (by unfold preSent; rw [if_pos k1, if_pos l1, if_neg n10, if_pos y11]; exact h3)
              | exact f142 _ _ eW3 (by unfold preSent; rw [if_pos k1, if_pos l1, if_neg n10, if_neg n11, if_pos y12]; exact h3)
              | exact f142 _ _ eW3 (by unfold preSent; rw [if_pos k1, if_pos l1, if_neg n10, if_neg n11, if_neg n12]; exact h3)
        · have y10 : nmT b t0 10 = true := nm_10.mpr ⟨h58.1, h58.2.1, h58.2.2.1, h58.2.2.2.1, h58.2.2.2.2.1, h72.1, h72.2.1, h58.2.2.2.2.2⟩
          refine a_aload_n C0 2 dX6_itemHere_75 rfl rfl ?_
          refine a_bipush C0 7 dX6_itemHere_76 rfl ?_
          refine a_bipush C0 7 dX6_itemHere_78 rfl ?_
          refine a_callV _ 2 C0 EM.refl (c_X6_ofHouse l G h0 g11 gk gr (row := 7) (rc := 2) (mn := 7) rfl (by decide) rfl (by decide) (fun T y v hy hv r => r.fr' (vp_lt hy) hv) rfl) u_c_X6_ofHouse u_m_X6_138 u_im_X6_ofHouse u_se_X6_ofHouse u_in_X6 hy_X6_ofHouse rfl (lt_b rfl) rfl (hRk rfl) rfl rfl (le_b rfl) dX6_itemHere_80 (k_v fun u80 q80 => ?_)
          obtain ⟨O3, S3, rfl, eW3, h3⟩ := q80
          refine a_goto C0 142 dX6_itemHere_83 rfl ?_
          refine AW.sub (ls2 := [(0, _)]) [2] rfl ?_
          first
            | exact f142 _ _ eW3 (by unfold preSent; rw [if_neg nk]; exact h3)
            | exact f142 _ _ (eT.w.trans eW3) (by unfold preSent; rw [if_pos k1, if_neg nl]; exact h3)
            | exact f142 _ _ eW3 (by unfold preSent; rw [if_pos k1, if_pos l1, if_pos y10]; exact h3)
            | exact f142 _ _ eW3 (by unfold preSent; rw [if_pos k1, if_pos l1, if_neg n10, if_pos y11]; exact h3)
            | exact f142 _ _ eW3 (by unfold preSent; rw [if_pos k1, if_pos l1, if_neg n10, if_neg n11, if_pos y12]; exact h3)
            | exact f142 _ _ eW3 (by unfold preSent; rw [if_pos k1, if_pos l1, if_neg n10, if_neg n11, if_neg n12]; exact h3)
    · have nl : ¬ lwT b t0 = -1 := fun q => by
        rcases lw_M (b := b) (t := t0) with z | ⟨j, hj, z1, z2⟩
        · exact h23 (by rw [z.2]; decide)
        · rw [z1] at q
          exact absurd (by rw [q]; decide) (ng_ (j := j) (by omega))
      obtain ⟨j, hj, ej1, ej2⟩ := lw_M.resolve_left (fun q : lwT b t0 = -1 ∧ lwM b t0 = -1 => nl q.1)
      obtain ⟨lt1, mm1, lt2, lt3⟩ := lw_top j hj
      refine a_aload_n C0 2 dX6_itemHere_26 rfl rfl ?_
      refine a_callV _ 0 C0 EM.refl (c_X6_nextToken l G h0 gk.2.2.1 gk.le.2.2.2.1 rfl) u_c_X6_nextToken u_m_X6_91 u_im_X6_nextToken u_se_X6_nextToken u_in_X6 hy_X6_nextToken rfl (lt_b rfl) rfl (hRk rfl) rfl rfl (le_b rfl) dX6_itemHere_27 (k_v fun u27 q27 => ?_)
      obtain ⟨O2, rfl, eT, hk2⟩ := q27
      have h1 : MR O2 S b n ((true, P, tkn b n t0) : RS) := MR.right ((eT 11 (by omega)).trans g11) hk2 gr
      refine a_aload_n C0 2 dX6_itemHere_30 rfl rfl ?_
      refine a_iload_n C0 0 dX6_itemHere_31 rfl rfl ?_
      refine a_iload_n C0 0 dX6_itemHere_32 rfl rfl ?_
      refine a_iconst C0 3 dX6_itemHere_33 rfl ?_
      refine a_isub C0 dX6_itemHere_34 ?_
      refine a_callS _ 1 C0 EM.z (c_X6_mostOf l G) u_c_X6_mostOf u_m_X6_135 u_st_X6_mostOf u_in_X6 hy_X6_mostOf.2 (hRk rfl) rfl rfl (le_b rfl) dX6_itemHere_35 (k_ro EM.z ?_)
      rw [show (if lwM b t0 - 3 < 2 then (9 : Int32) else 99) = topL (lwT b t0) by rw [ej2, ej1]; exact lt1]
      refine a_callV _ 2 C0 EM.refl (c_X6_numberTo l G (P' := up2 P 1 (ix (lwT b t0)) (numT b (tkn b n t0))) (j := 3 + j) (h0.eqT eT) h1 (fun _ => IX.eqn ej2 (by omega) (by decide)) (fun _ hv => ⟨_, by
  rw [ej1, lt3] at hv
  rw [ej1, show ix (nI j) = j from nI_clamp (by omega)]
  exact gr.law' hj (fun _ => vp_le (numI hk2 (k := mm1) (by omega) hv).1 (by omega))⟩) rfl) u_c_X6_numberTo u_m_X6_120 u_im_X6_numberTo u_se_X6_numberTo u_in_X6 hy_X6_numberTo rfl (lt_b rfl) rfl (hRk rfl) rfl rfl (le_b rfl) dX6_itemHere_38 (k_v fun u38 q38 => ?_)
      obtain ⟨O3, S3, rfl, eW3, h3⟩ := q38
      refine a_goto C0 142 dX6_itemHere_41 rfl ?_
      refine AW.sub (ls2 := [(0, _)]) [2] rfl ?_
      first
        | exact f142 _ _ eW3 (by unfold preSent; rw [if_neg nk]; exact h3)
        | exact f142 _ _ (eT.w.trans eW3) (by unfold preSent; rw [if_pos k1, if_neg nl]; exact h3)
        | exact f142 _ _ eW3 (by unfold preSent; rw [if_pos k1, if_pos l1, if_pos y10]; exact h3)
        | exact f142 _ _ eW3 (by unfold preSent; rw [if_pos k1, if_pos l1, if_neg n10, if_pos y11]; exact h3)
        | exact f142 _ _ eW3 (by unfold preSent; rw [if_pos k1, if_pos l1, if_neg n10, if_neg n11, if_pos y12]; exact h3)
        | exact f142 _ _ eW3 (by unfold preSent; rw [if_pos k1, if_pos l1, if_neg n10, if_neg n11, if_neg n12]; exact h3)
  · obtain ⟨j, hj, ej⟩ := kd_M.resolve_left (fun q : kdT b t0 = -1 => h11 (by rw [q]; decide))
    have hkd : vp_in (kdT b t0) 6 := by
      rw [ej]
      exact vp_in_nI hj (by decide)
    have nk : ¬ kdT b t0 = -1 := fun q => h11 (by rw [q]; decide)
    refine a_aload_n C0 2 dX6_itemHere_14 rfl rfl ?_
    refine a_iload_n C0 1 dX6_itemHere_15 rfl rfl ?_
    refine a_callV _ 1 C0 EM.refl (c_X6_taleHere l G h0 g11 gk gr hkd rfl) u_c_X6_taleHere u_m_X6_131 u_im_X6_taleHere u_se_X6_taleHere u_in_X6 hy_X6_taleHere rfl (lt_b rfl) rfl (hRk rfl) rfl rfl (le_b rfl) dX6_itemHere_16 (k_v fun u16 q16 => ?_)
    obtain ⟨O3, S3, rfl, eW3, h3⟩ := q16
    refine a_goto C0 142 dX6_itemHere_19 rfl ?_
    refine AW.sub (ls2 := [(0, _)]) [2] rfl ?_
    first
      | exact f142 _ _ eW3 (by unfold preSent; rw [if_neg nk]; exact h3)
      | exact f142 _ _ (eT.w.trans eW3) (by unfold preSent; rw [if_pos k1, if_neg nl]; exact h3)
      | exact f142 _ _ eW3 (by unfold preSent; rw [if_pos k1, if_pos l1, if_pos y10]; exact h3)
      | exact f142 _ _ eW3 (by unfold preSent; rw [if_pos k1, if_pos l1, if_neg n10, if_pos y11]; exact h3)
      | exact f142 _ _ eW3 (by unfold preSent; rw [if_pos k1, if_pos l1, if_neg n10, if_neg n11, if_pos y12]; exact h3)
      | exact f142 _ _ eW3 (by unfold preSent; rw [if_pos k1, if_pos l1, if_neg n10, if_neg n11, if_neg n12]; exact h3)
