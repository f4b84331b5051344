
/-- the class's Shelves and the model's -/
def RHe (H X : WM) : Prop := ∀ j, j < 4 → X 10 j = H j 0 ∧ (H j 0 = 0 ∨ H j 0 = 1 ∨ H j 0 = 2) ∧ (H j 0 = 1 → X 11 j = H j 1) ∧ (H j 0 = 2 → X 11 j = H j 2 ∧ X 12 j = H j 1)
theorem RHe.set {H X Y u : WM} {j : Nat} (r : RHe H X) (h : ∀ c, c = 10 ∨ c = 11 ∨ c = 12 → ∀ q, q < 4 → q ≠ j → Y c q = X c q) (hu : Y 10 j = u 0 0 ∧ (u 0 0 = 0 ∨ u 0 0 = 1 ∨ u 0 0 = 2) ∧ (u 0 0 = 1 → Y 11 j = u 0 1) ∧ (u 0 0 = 2 → Y 11 j = u 0 2 ∧ Y 12 j = u 0 1)) : RHe (setH H j u) Y := by
  intro q hq
  by_cases e : q = j
  · subst e
    rw [show setH H q u q = u 0 from if_pos rfl]
    exact hu
  · rw [show setH H j u q = H q from if_neg e, h 10 (Or.inl rfl) q hq e, h 11 (Or.inr (Or.inl rfl)) q hq e, h 12 (Or.inr (Or.inr rfl)) q hq e]
    exact r q hq
def EqXh (X Y : WM) : Prop := ∀ c, c ≠ 10 → c ≠ 11 → c ≠ 12 → Y c = X c
def sh3 (X : WM) (j : Nat) (a b c : Int32) : WM := up2 (up2 (up2 X 10 j a) 11 j b) 12 j c
theorem sh3_x {X : WM} {j : Nat} {a b c : Int32} : EqXh X (sh3 X j a b c) := fun q h1 h2 h3 => by
  funext k
  exact (if_neg h3).trans ((if_neg h2).trans (if_neg h1))
theorem sh3_o {X : WM} {j : Nat} {a b c : Int32} : ∀ q, q = 10 ∨ q = 11 ∨ q = 12 → ∀ k, k < 4 → k ≠ j → sh3 X j a b c q k = X q k := by
  rintro q (rfl | rfl | rfl) k _ hk
  · exact if_neg hk
  · exact if_neg hk
  · exact if_neg hk
theorem sh3_0 {X : WM} {j : Nat} {a b c : Int32} : sh3 X j a b c 10 j = a := if_pos rfl
theorem sh3_1 {X : WM} {j : Nat} {a b c : Int32} : sh3 X j a b c 11 j = b := if_pos rfl
theorem sh3_2 {X : WM} {j : Nat} {a b c : Int32} : sh3 X j a b c 12 j = c := if_pos rfl

set_option maxRecDepth 100000 in
set_option maxHeartbeats 4000000 in
theorem c_X6_shelf (l : Launch) (G : GE) {ad : Nat → Nat} {M : WM} {O S : RW} {X : WM} {P : WM} {nT mm : Nat} (rp : RP P S nT mm) {v k x : Int32} {W H : WM} (rs : RSh W X) (rh : RHe H X) (hM : M = mkM O S X)  : CT l G yX6_shelf cX6_shelf 5 (some .int) 2 [.ref (ad 0), .int v, .int k, .int x] 14 ad (shM G ad) M (PI (fun r u => r = sleR P v k x ∧ ∃ X', u = mkM O S X' ∧ EqXh X X' ∧ RHe (sleH P W H v k x) X')) := by
  refine CT.of (own := RX6) rfl rfl (le_b rfl) fun p e s m args below meth c A C0 hr => ?_
  refine AW.lo (ls2 := [(0, _), (1, _), (2, _), (3, _)]) rfl ?_
  subst hM
  have fin : ∀ z : Int32, isSh v → ((k = 0 ∧ isTl P x ∧ z = 0) ∨ (k = 2 ∧ z = 0) ∨ (k = 1 ∧ isSh x ∧ z = if W (2 * ix x) 0 = -1 then 0 else 1)) → AW p l e (rmk 2) s m args below meth c G A 14 ad (shM G ad) 5 0 0 (MQ below (CQ G 14 ad (shM G ad) A (PI (fun r u => r = sleR P v k x ∧ ∃ X', u = mkM O S X' ∧ EqXh X X' ∧ RHe (sleH P W H v k x) X'))) args s 0 0 A) 66 [(0, .ref (ad 0)), (1, .int v), (2, .int k), (3, .int x), (4, .int z)] [] (mkM O S X) := by
    intro z h4 hF
    have hv4 := sh_in h4
    have hj := vp_lt hv4
    have hxz : ¬ z = 0 → vp_in x 4 := fun q => by
      rcases hF with f | f | f
      · exact absurd f.2.2 q
      · exact absurd f.2 q
      · exact sh_in f.2.1
    refine a_aload_n C0 0 dX6_shelf_66 rfl rfl ?_
    refine g_X6_37 C0 (lt_b rfl) rfl rfl dX6_shelf_67 ?_
    refine a_iload_n C0 1 dX6_shelf_70 rfl rfl ?_
    refine a_iload_n C0 2 dX6_shelf_71 rfl rfl ?_
    refine a_if_ne C0 79 dX6_shelf_72 rfl (fun h72 => ?_) (fun h72 => ?_)
    · refine a_iload C0 4 dX6_shelf_79 rfl ?_
      refine a_if_eq C0 88 dX6_shelf_81 rfl (fun h81 => ?_) (fun h81 => ?_)
      · refine a_iconst C0 0 dX6_shelf_88 rfl ?_
        refine a_iast C0 _ (lt_b rfl) (fun _ => rfl) hv4 rfl dX6_shelf_89 ?_
        refine a_aload_n C0 0 dX6_shelf_90 rfl rfl ?_
        refine g_X6_40 C0 (lt_b rfl) rfl rfl dX6_shelf_91 ?_
        refine a_iload_n C0 1 dX6_shelf_94 rfl rfl ?_
        refine a_iload_n C0 2 dX6_shelf_95 rfl rfl ?_
        refine a_if_ne C0 103 dX6_shelf_96 rfl (fun h96 => ?_) (fun h96 => ?_)
        · refine a_iload C0 4 dX6_shelf_103 rfl ?_
          refine a_if_eq C0 117 dX6_shelf_105 rfl (fun h105 => ?_) (fun h105 => ?_)
          · refine a_iconst C0 0 dX6_shelf_117 rfl ?_
            refine a_iast C0 _ (lt_b rfl) (fun _ => rfl) hv4 rfl dX6_shelf_118 ?_
            refine a_aload_n C0 0 dX6_shelf_119 rfl rfl ?_
            refine g_X6_43 C0 (lt_b rfl) rfl rfl dX6_shelf_120 ?_
            refine a_iload_n C0 1 dX6_shelf_123 rfl rfl ?_
            refine a_iload C0 4 dX6_shelf_124 rfl ?_
            refine a_if_eq C0 138 dX6_shelf_126 rfl (fun h126 => ?_) (fun h126 => ?_)
            · refine a_iconst C0 0 dX6_shelf_138 rfl ?_
              refine a_iast C0 _ (lt_b rfl) (fun _ => rfl) hv4 rfl dX6_shelf_139 ?_
              refine a_iconst C0 1 dX6_shelf_140 rfl ?_
              refine a_iret C0 hr dX6_shelf_141 ?_
              rw [mkM_X (by decide), mkM_X (by decide), mkM_X (by decide)]
              rcases hF with ⟨k0, ht, z0⟩ | ⟨k2, z0⟩ | ⟨k1, hx, z1⟩
              · have c0 : k = 0 ∧ isTl P x := ⟨k0, ht⟩
                refine ⟨_, rfl, by unfold sleR; rw [if_pos h4, if_pos c0], sh3 X (ix v) _ _ _, rfl, sh3_x, ?_⟩
                unfold sleH
                rw [if_pos h4, if_pos c0]
                first
                  | exact absurd k0 h72
                  | exact absurd k0 h96
                  | exact rh.set sh3_o ⟨sh3_0, Or.inr (Or.inl rfl), fun _ => sh3_1, fun q => absurd q (show ¬ (1 : Int32) = 2 by decide)⟩
              · have c0 : ¬ (k = 0 ∧ isTl P x) := fun q => absurd (k2.symm.trans q.1) (by decide)
                have c1 : ¬ (k = 1 ∧ isSh x) := fun q => absurd (k2.symm.trans q.1) (by decide)
                refine ⟨_, rfl, by unfold sleR; rw [if_pos h4, if_neg c0, if_neg c1, if_pos k2], sh3 X (ix v) _ _ _, rfl, sh3_x, ?_⟩
                unfold sleH
                rw [if_pos h4, if_neg c0, if_neg c1, if_pos k2]
                first
                  | exact absurd z0 h81
                  | exact absurd z0 h105
                  | exact absurd z0 h126
                  | exact absurd (h72.symm.trans k2) (by decide)
                  | exact absurd (h96.symm.trans k2) (by decide)
                  | exact rh.set sh3_o ⟨sh3_0, Or.inl rfl, fun q => absurd q (show ¬ (0 : Int32) = 1 by decide), fun q => absurd q (show ¬ (0 : Int32) = 2 by decide)⟩
              · have c0 : ¬ (k = 0 ∧ isTl P x) := fun q => absurd (k1.symm.trans q.1) (by decide)
                have c1 : k = 1 ∧ isSh x := ⟨k1, hx⟩
                refine ⟨_, rfl, by unfold sleR; rw [if_pos h4, if_neg c0, if_pos c1], sh3 X (ix v) _ _ _, rfl, sh3_x, ?_⟩
                unfold sleH
                rw [if_pos h4, if_neg c0, if_pos c1]
                unfold hldW
                obtain ⟨g1, -, cn, g2, g3, g4, -⟩ := rs _ (vp_lt (sh_in hx))
                first
                  | exact absurd (h72.symm.trans k1) (by decide)
                  | exact absurd (h96.symm.trans k1) (by decide)
                  | (by_cases hm : W (2 * ix x) 0 = -1
                     · rw [if_pos hm] at z1 ⊢
                       first
                         | exact absurd z1 h81
                         | exact absurd z1 h105
                         | exact absurd z1 h126
                         | exact rh.set sh3_o ⟨sh3_0, Or.inl rfl, fun q => absurd q (show ¬ (0 : Int32) = 1 by decide), fun q => absurd q (show ¬ (0 : Int32) = 2 by decide)⟩
                     · rw [if_neg hm] at z1 ⊢
                       first
                         | exact absurd (h81.symm.trans z1) (by decide)
                         | exact absurd (h105.symm.trans z1) (by decide)
                         | exact absurd (h126.symm.trans z1) (by decide)
                         | exact rh.set sh3_o ⟨sh3_0, Or.inr (Or.inr rfl), fun q => absurd q (show ¬ (2 : Int32) = 1 by decide), fun _ => ⟨sh3_1.trans g1, sh3_2.trans (g4.trans g3.symm)⟩⟩)
            · refine a_aload_n C0 0 dX6_shelf_129 rfl rfl ?_
              refine g_X6_31 C0 (lt_b rfl) rfl rfl dX6_shelf_130 ?_
              refine a_iload_n C0 3 dX6_shelf_133 rfl rfl ?_
              refine a_iald C0 _ (lt_b rfl) rfl (hxz h126) rfl dX6_shelf_134 ?_
              refine a_goto C0 139 dX6_shelf_135 rfl ?_
              refine a_iast C0 _ (lt_b rfl) (fun _ => rfl) hv4 rfl dX6_shelf_139 ?_
              refine a_iconst C0 1 dX6_shelf_140 rfl ?_
              refine a_iret C0 hr dX6_shelf_141 ?_
              rw [mkM_X (by decide), mkM_X (by decide), mkM_X (by decide)]
              rcases hF with ⟨k0, ht, z0⟩ | ⟨k2, z0⟩ | ⟨k1, hx, z1⟩
              · have c0 : k = 0 ∧ isTl P x := ⟨k0, ht⟩
                refine ⟨_, rfl, by unfold sleR; rw [if_pos h4, if_pos c0], sh3 X (ix v) _ _ _, rfl, sh3_x, ?_⟩
                unfold sleH
                rw [if_pos h4, if_pos c0]
                first
                  | exact absurd k0 h72
                  | exact absurd k0 h96
                  | exact rh.set sh3_o ⟨sh3_0, Or.inr (Or.inl rfl), fun _ => sh3_1, fun q => absurd q (show ¬ (1 : Int32) = 2 by decide)⟩
              · have c0 : ¬ (k = 0 ∧ isTl P x) := fun q => absurd (k2.symm.trans q.1) (by decide)
                have c1 : ¬ (k = 1 ∧ isSh x) := fun q => absurd (k2.symm.trans q.1) (by decide)
                refine ⟨_, rfl, by unfold sleR; rw [if_pos h4, if_neg c0, if_neg c1, if_pos k2], sh3 X (ix v) _ _ _, rfl, sh3_x, ?_⟩
                unfold sleH
                rw [if_pos h4, if_neg c0, if_neg c1, if_pos k2]
                first
                  | exact absurd z0 h81
                  | exact absurd z0 h105
                  | exact absurd z0 h126
                  | exact absurd (h72.symm.trans k2) (by decide)
                  | exact absurd (h96.symm.trans k2) (by decide)
                  | exact rh.set sh3_o ⟨sh3_0, Or.inl rfl, fun q => absurd q (show ¬ (0 : Int32) = 1 by decide), fun q => absurd q (show ¬ (0 : Int32) = 2 by decide)⟩
              · have c0 : ¬ (k = 0 ∧ isTl P x) := fun q => absurd (k1.symm.trans q.1) (by decide)
                have c1 : k = 1 ∧ isSh x := ⟨k1, hx⟩
                refine ⟨_, rfl, by unfold sleR; rw [if_pos h4, if_neg c0, if_pos c1], sh3 X (ix v) _ _ _, rfl, sh3_x, ?_⟩
                unfold sleH
                rw [if_pos h4, if_neg c0, if_pos c1]
                unfold hldW
                obtain ⟨g1, -, cn, g2, g3, g4, -⟩ := rs _ (vp_lt (sh_in hx))
                first
                  | exact absurd (h72.symm.trans k1) (by decide)
                  | exact absurd (h96.symm.trans k1) (by decide)
                  | (by_cases hm : W (2 * ix x) 0 = -1
                     · rw [if_pos hm] at z1 ⊢
                       first
                         | exact absurd z1 h81
                         | exact absurd z1 h105
                         | exact absurd z1 h126
                         | exact rh.set sh3_o ⟨sh3_0, Or.inl rfl, fun q => absurd q (show ¬ (0 : Int32) = 1 by decide), fun q => absurd q (show ¬ (0 : Int32) = 2 by decide)⟩
                     · rw [if_neg hm] at z1 ⊢
                       first
                         | exact absurd (h81.symm.trans z1) (by decide)
                         | exact absurd (h105.symm.trans z1) (by decide)
                         | exact absurd (h126.symm.trans z1) (by decide)
                         | exact rh.set sh3_o ⟨sh3_0, Or.inr (Or.inr rfl), fun q => absurd q (show ¬ (2 : Int32) = 1 by decide), fun _ => ⟨sh3_1.trans g1, sh3_2.trans (g4.trans g3.symm)⟩⟩)
          · refine a_aload_n C0 0 dX6_shelf_108 rfl rfl ?_
            refine g_X6_28 C0 (lt_b rfl) rfl rfl dX6_shelf_109 ?_
            refine a_iload_n C0 3 dX6_shelf_112 rfl rfl ?_
            refine a_iald C0 _ (lt_b rfl) rfl (hxz h105) rfl dX6_shelf_113 ?_
            refine a_goto C0 118 dX6_shelf_114 rfl ?_
            refine a_iast C0 _ (lt_b rfl) (fun _ => rfl) hv4 rfl dX6_shelf_118 ?_
            refine a_aload_n C0 0 dX6_shelf_119 rfl rfl ?_
            refine g_X6_43 C0 (lt_b rfl) rfl rfl dX6_shelf_120 ?_
            refine a_iload_n C0 1 dX6_shelf_123 rfl rfl ?_
            refine a_iload C0 4 dX6_shelf_124 rfl ?_
            refine a_if_eq C0 138 dX6_shelf_126 rfl (fun h126 => ?_) (fun h126 => ?_)
            · refine a_iconst C0 0 dX6_shelf_138 rfl ?_
              refine a_iast C0 _ (lt_b rfl) (fun _ => rfl) hv4 rfl dX6_shelf_139 ?_
              refine a_iconst C0 1 dX6_shelf_140 rfl ?_
              refine a_iret C0 hr dX6_shelf_141 ?_
              rw [mkM_X (by decide), mkM_X (by decide), mkM_X (by decide)]
              rcases hF with ⟨k0, ht, z0⟩ | ⟨k2, z0⟩ | ⟨k1, hx, z1⟩
              · have c0 : k = 0 ∧ isTl P x := ⟨k0, ht⟩
                refine ⟨_, rfl, by unfold sleR; rw [if_pos h4, if_pos c0], sh3 X (ix v) _ _ _, rfl, sh3_x, ?_⟩
                unfold sleH
                rw [if_pos h4, if_pos c0]
                first
                  | exact absurd k0 h72
                  | exact absurd k0 h96
                  | exact rh.set sh3_o ⟨sh3_0, Or.inr (Or.inl rfl), fun _ => sh3_1, fun q => absurd q (show ¬ (1 : Int32) = 2 by decide)⟩
              · have c0 : ¬ (k = 0 ∧ isTl P x) := fun q => absurd (k2.symm.trans q.1) (by decide)
                have c1 : ¬ (k = 1 ∧ isSh x) := fun q => absurd (k2.symm.trans q.1) (by decide)
                refine ⟨_, rfl, by unfold sleR; rw [if_pos h4, if_neg c0, if_neg c1, if_pos k2], sh3 X (ix v) _ _ _, rfl, sh3_x, ?_⟩
                unfold sleH
                rw [if_pos h4, if_neg c0, if_neg c1, if_pos k2]
                first
                  | exact absurd z0 h81
                  | exact absurd z0 h105
                  | exact absurd z0 h126
                  | exact absurd (h72.symm.trans k2) (by decide)
                  | exact absurd (h96.symm.trans k2) (by decide)
                  | exact rh.set sh3_o ⟨sh3_0, Or.inl rfl, fun q => absurd q (show ¬ (0 : Int32) = 1 by decide), fun q => absurd q (show ¬ (0 : Int32) = 2 by decide)⟩
              · have c0 : ¬ (k = 0 ∧ isTl P x) := fun q => absurd (k1.symm.trans q.1) (by decide)
                have c1 : k = 1 ∧ isSh x := ⟨k1, hx⟩
                refine ⟨_, rfl, by unfold sleR; rw [if_pos h4, if_neg c0, if_pos c1], sh3 X (ix v) _ _ _, rfl, sh3_x, ?_⟩
                unfold sleH
                rw [if_pos h4, if_neg c0, if_pos c1]
                unfold hldW
                obtain ⟨g1, -, cn, g2, g3, g4, -⟩ := rs _ (vp_lt (sh_in hx))
                first
                  | exact absurd (h72.symm.trans k1) (by decide)
                  | exact absurd (h96.symm.trans k1) (by decide)
                  | (by_cases hm : W (2 * ix x) 0 = -1
                     · rw [if_pos hm] at z1 ⊢
                       first
                         | exact absurd z1 h81
                         | exact absurd z1 h105
                         | exact absurd z1 h126
                         | exact rh.set sh3_o ⟨sh3_0, Or.inl rfl, fun q => absurd q (show ¬ (0 : Int32) = 1 by decide), fun q => absurd q (show ¬ (0 : Int32) = 2 by decide)⟩
                     · rw [if_neg hm] at z1 ⊢
                       first
                         | exact absurd (h81.symm.trans z1) (by decide)
                         | exact absurd (h105.symm.trans z1) (by decide)
                         | exact absurd (h126.symm.trans z1) (by decide)
                         | exact rh.set sh3_o ⟨sh3_0, Or.inr (Or.inr rfl), fun q => absurd q (show ¬ (2 : Int32) = 1 by decide), fun _ => ⟨sh3_1.trans g1, sh3_2.trans (g4.trans g3.symm)⟩⟩)
            · refine a_aload_n C0 0 dX6_shelf_129 rfl rfl ?_
              refine g_X6_31 C0 (lt_b rfl) rfl rfl dX6_shelf_130 ?_
              refine a_iload_n C0 3 dX6_shelf_133 rfl rfl ?_
              refine a_iald C0 _ (lt_b rfl) rfl (hxz h126) rfl dX6_shelf_134 ?_
              refine a_goto C0 139 dX6_shelf_135 rfl ?_
              refine a_iast C0 _ (lt_b rfl) (fun _ => rfl) hv4 rfl dX6_shelf_139 ?_
              refine a_iconst C0 1 dX6_shelf_140 rfl ?_
              refine a_iret C0 hr dX6_shelf_141 ?_
              rw [mkM_X (by decide), mkM_X (by decide), mkM_X (by decide)]
              rcases hF with ⟨k0, ht, z0⟩ | ⟨k2, z0⟩ | ⟨k1, hx, z1⟩
              · have c0 : k = 0 ∧ isTl P x := ⟨k0, ht⟩
                refine ⟨_, rfl, by unfold sleR; rw [if_pos h4, if_pos c0], sh3 X (ix v) _ _ _, rfl, sh3_x, ?_⟩
                unfold sleH
                rw [if_pos h4, if_pos c0]
                first
                  | exact absurd k0 h72
                  | exact absurd k0 h96
                  | exact rh.set sh3_o ⟨sh3_0, Or.inr (Or.inl rfl), fun _ => sh3_1, fun q => absurd q (show ¬ (1 : Int32) = 2 by decide)⟩
              · have c0 : ¬ (k = 0 ∧ isTl P x) := fun q => absurd (k2.symm.trans q.1) (by decide)
                have c1 : ¬ (k = 1 ∧ isSh x) := fun q => absurd (k2.symm.trans q.1) (by decide)
                refine ⟨_, rfl, by unfold sleR; rw [if_pos h4, if_neg c0, if_neg c1, if_pos k2], sh3 X (ix v) _ _ _, rfl, sh3_x, ?_⟩
                unfold sleH
                rw [if_pos h4, if_neg c0, if_neg c1, if_pos k2]
                first
                  | exact absurd z0 h81
                  | exact absurd z0 h105
                  | exact absurd z0 h126
                  | exact absurd (h72.symm.trans k2) (by decide)
                  | exact absurd (h96.symm.trans k2) (by decide)
                  | exact rh.set sh3_o ⟨sh3_0, Or.inl rfl, fun q => absurd q (show ¬ (0 : Int32) = 1 by decide), fun q => absurd q (show ¬ (0 : Int32) = 2 by decide)⟩
              · have c0 : ¬ (k = 0 ∧ isTl P x) := fun q => absurd (k1.symm.trans q.1) (by decide)
                have c1 : k = 1 ∧ isSh x := ⟨k1, hx⟩
                refine ⟨_, rfl, by unfold sleR; rw [if_pos h4, if_neg c0, if_pos c1], sh3 X (ix v) _ _ _, rfl, sh3_x, ?_⟩
                unfold sleH
                rw [if_pos h4, if_neg c0, if_pos c1]
                unfold hldW
                obtain ⟨g1, -, cn, g2, g3, g4, -⟩ := rs _ (vp_lt (sh_in hx))
                first
                  | exact absurd (h72.symm.trans k1) (by decide)
                  | exact absurd (h96.symm.trans k1) (by decide)
                  | (by_cases hm : W (2 * ix x) 0 = -1
                     · rw [if_pos hm] at z1 ⊢
                       first
                         | exact absurd z1 h81
                         | exact absurd z1 h105
                         | exact absurd z1 h126
                         | exact rh.set sh3_o ⟨sh3_0, Or.inl rfl, fun q => absurd q (show ¬ (0 : Int32) = 1 by decide), fun q => absurd q (show ¬ (0 : Int32) = 2 by decide)⟩
                     · rw [if_neg hm] at z1 ⊢
                       first
                         | exact absurd (h81.symm.trans z1) (by decide)
                         | exact absurd (h105.symm.trans z1) (by decide)
                         | exact absurd (h126.symm.trans z1) (by decide)
                         | exact rh.set sh3_o ⟨sh3_0, Or.inr (Or.inr rfl), fun q => absurd q (show ¬ (2 : Int32) = 1 by decide), fun _ => ⟨sh3_1.trans g1, sh3_2.trans (g4.trans g3.symm)⟩⟩)
        · refine a_iload_n C0 3 dX6_shelf_99 rfl rfl ?_
          refine a_goto C0 118 dX6_shelf_100 rfl ?_
          refine a_iast C0 _ (lt_b rfl) (fun _ => rfl) hv4 rfl dX6_shelf_118 ?_
          refine a_aload_n C0 0 dX6_shelf_119 rfl rfl ?_
          refine g_X6_43 C0 (lt_b rfl) rfl rfl dX6_shelf_120 ?_
          refine a_iload_n C0 1 dX6_shelf_123 rfl rfl ?_
          refine a_iload C0 4 dX6_shelf_124 rfl ?_
          refine a_if_eq C0 138 dX6_shelf_126 rfl (fun h126 => ?_) (fun h126 => ?_)
          · refine a_iconst C0 0 dX6_shelf_138 rfl ?_
            refine a_iast C0 _ (lt_b rfl) (fun _ => rfl) hv4 rfl dX6_shelf_139 ?_
            refine a_iconst C0 1 dX6_shelf_140 rfl ?_
            refine a_iret C0 hr dX6_shelf_141 ?_
            rw [mkM_X (by decide), mkM_X (by decide), mkM_X (by decide)]
            rcases hF with ⟨k0, ht, z0⟩ | ⟨k2, z0⟩ | ⟨k1, hx, z1⟩
            · have c0 : k = 0 ∧ isTl P x := ⟨k0, ht⟩
              refine ⟨_, rfl, by unfold sleR; rw [if_pos h4, if_pos c0], sh3 X (ix v) _ _ _, rfl, sh3_x, ?_⟩
              unfold sleH
              rw [if_pos h4, if_pos c0]
              first
                | exact absurd k0 h72
                | exact absurd k0 h96
                | exact rh.set sh3_o ⟨sh3_0, Or.inr (Or.inl rfl), fun _ => sh3_1, fun q => absurd q (show ¬ (1 : Int32) = 2 by decide)⟩
            · have c0 : ¬ (k = 0 ∧ isTl P x) := fun q => absurd (k2.symm.trans q.1) (by decide)
              have c1 : ¬ (k = 1 ∧ isSh x) := fun q => absurd (k2.symm.trans q.1) (by decide)
              refine ⟨_, rfl, by unfold sleR; rw [if_pos h4, if_neg c0, if_neg c1, if_pos k2], sh3 X (ix v) _ _ _, rfl, sh3_x, ?_⟩
              unfold sleH
              rw [if_pos h4, if_neg c0, if_neg c1, if_pos k2]
              first
                | exact absurd z0 h81
                | exact absurd z0 h105
                | exact absurd z0 h126
                | exact absurd (h72.symm.trans k2) (by decide)
                | exact absurd (h96.symm.trans k2) (by decide)
                | exact rh.set sh3_o ⟨sh3_0, Or.inl rfl, fun q => absurd q (show ¬ (0 : Int32) = 1 by decide), fun q => absurd q (show ¬ (0 : Int32) = 2 by decide)⟩
            · have c0 : ¬ (k = 0 ∧ isTl P x) := fun q => absurd (k1.symm.trans q.1) (by decide)
              have c1 : k = 1 ∧ isSh x := ⟨k1, hx⟩
              refine ⟨_, rfl, by unfold sleR; rw [if_pos h4, if_neg c0, if_pos c1], sh3 X (ix v) _ _ _, rfl, sh3_x, ?_⟩
              unfold sleH
              rw [if_pos h4, if_neg c0, if_pos c1]
              unfold hldW
              obtain ⟨g1, -, cn, g2, g3, g4, -⟩ := rs _ (vp_lt (sh_in hx))
              first
                | exact absurd (h72.symm.trans k1) (by decide)
                | exact absurd (h96.symm.trans k1) (by decide)
                | (by_cases hm : W (2 * ix x) 0 = -1
                   · rw [if_pos hm] at z1 ⊢
                     first
                       | exact absurd z1 h81
                       | exact absurd z1 h105
                       | exact absurd z1 h126
                       | exact rh.set sh3_o ⟨sh3_0, Or.inl rfl, fun q => absurd q (show ¬ (0 : Int32) = 1 by decide), fun q => absurd q (show ¬ (0 : Int32) = 2 by decide)⟩
                   · rw [if_neg hm] at z1 ⊢
                     first
                       | exact absurd (h81.symm.trans z1) (by decide)
                       | exact absurd (h105.symm.trans z1) (by decide)
                       | exact absurd (h126.symm.trans z1) (by decide)
                       | exact rh.set sh3_o ⟨sh3_0, Or.inr (Or.inr rfl), fun q => absurd q (show ¬ (2 : Int32) = 1 by decide), fun _ => ⟨sh3_1.trans g1, sh3_2.trans (g4.trans g3.symm)⟩⟩)
          · refine a_aload_n C0 0 dX6_shelf_129 rfl rfl ?_
            refine g_X6_31 C0 (lt_b rfl) rfl rfl dX6_shelf_130 ?_
            refine a_iload_n C0 3 dX6_shelf_133 rfl rfl ?_
            refine a_iald C0 _ (lt_b rfl) rfl (hxz h126) rfl dX6_shelf_134 ?_
            refine a_goto C0 139 dX6_shelf_135 rfl ?_
            refine a_iast C0 _ (lt_b rfl) (fun _ => rfl) hv4 rfl dX6_shelf_139 ?_
            refine a_iconst C0 1 dX6_shelf_140 rfl ?_
            refine a_iret C0 hr dX6_shelf_141 ?_
            rw [mkM_X (by decide), mkM_X (by decide), mkM_X (by decide)]
            rcases hF with ⟨k0, ht, z0⟩ | ⟨k2, z0⟩ | ⟨k1, hx, z1⟩
            · have c0 : k = 0 ∧ isTl P x := ⟨k0, ht⟩
              refine ⟨_, rfl, by unfold sleR; rw [if_pos h4, if_pos c0], sh3 X (ix v) _ _ _, rfl, sh3_x, ?_⟩
              unfold sleH
              rw [if_pos h4, if_pos c0]
              first
                | exact absurd k0 h72
                | exact absurd k0 h96
                | exact rh.set sh3_o ⟨sh3_0, Or.inr (Or.inl rfl), fun _ => sh3_1, fun q => absurd q (show ¬ (1 : Int32) = 2 by decide)⟩
            · have c0 : ¬ (k = 0 ∧ isTl P x) := fun q => absurd (k2.symm.trans q.1) (by decide)
              have c1 : ¬ (k = 1 ∧ isSh x) := fun q => absurd (k2.symm.trans q.1) (by decide)
              refine ⟨_, rfl, by unfold sleR; rw [if_pos h4, if_neg c0, if_neg c1, if_pos k2], sh3 X (ix v) _ _ _, rfl, sh3_x, ?_⟩
              unfold sleH
              rw [if_pos h4, if_neg c0, if_neg c1, if_pos k2]
              first
                | exact absurd z0 h81
                | exact absurd z0 h105
                | exact absurd z0 h126
                | exact absurd (h72.symm.trans k2) (by decide)
                | exact absurd (h96.symm.trans k2) (by decide)
                | exact rh.set sh3_o ⟨sh3_0, Or.inl rfl, fun q => absurd q (show ¬ (0 : Int32) = 1 by decide), fun q => absurd q (show ¬ (0 : Int32) = 2 by decide)⟩
            · have c0 : ¬ (k = 0 ∧ isTl P x) := fun q => absurd (k1.symm.trans q.1) (by decide)
              have c1 : k = 1 ∧ isSh x := ⟨k1, hx⟩
              refine ⟨_, rfl, by unfold sleR; rw [if_pos h4, if_neg c0, if_pos c1], sh3 X (ix v) _ _ _, rfl, sh3_x, ?_⟩
              unfold sleH
              rw [if_pos h4, if_neg c0, if_pos c1]
              unfold hldW
              obtain ⟨g1, -, cn, g2, g3, g4, -⟩ := rs _ (vp_lt (sh_in hx))
              first
                | exact absurd (h72.symm.trans k1) (by decide)
                | exact absurd (h96.symm.trans k1) (by decide)
                | (by_cases hm : W (2 * ix x) 0 = -1
                   · rw [if_pos hm] at z1 ⊢
                     first
                       | exact absurd z1 h81
                       | exact absurd z1 h105
                       | exact absurd z1 h126
                       | exact rh.set sh3_o ⟨sh3_0, Or.inl rfl, fun q => absurd q (show ¬ (0 : Int32) = 1 by decide), fun q => absurd q (show ¬ (0 : Int32) = 2 by decide)⟩
                   · rw [if_neg hm] at z1 ⊢
                     first
                       | exact absurd (h81.symm.trans z1) (by decide)
                       | exact absurd (h105.symm.trans z1) (by decide)
                       | exact absurd (h126.symm.trans z1) (by decide)
                       | exact rh.set sh3_o ⟨sh3_0, Or.inr (Or.inr rfl), fun q => absurd q (show ¬ (2 : Int32) = 1 by decide), fun _ => ⟨sh3_1.trans g1, sh3_2.trans (g4.trans g3.symm)⟩⟩)
      · refine a_iconst C0 2 dX6_shelf_84 rfl ?_
        refine a_goto C0 89 dX6_shelf_85 rfl ?_
        refine a_iast C0 _ (lt_b rfl) (fun _ => rfl) hv4 rfl dX6_shelf_89 ?_
        refine a_aload_n C0 0 dX6_shelf_90 rfl rfl ?_
        refine g_X6_40 C0 (lt_b rfl) rfl rfl dX6_shelf_91 ?_
        refine a_iload_n C0 1 dX6_shelf_94 rfl rfl ?_
        refine a_iload_n C0 2 dX6_shelf_95 rfl rfl ?_
        refine a_if_ne C0 103 dX6_shelf_96 rfl (fun h96 => ?_) (fun h96 => ?_)
        · refine a_iload C0 4 dX6_shelf_103 rfl ?_
          refine a_if_eq C0 117 dX6_shelf_105 rfl (fun h105 => ?_) (fun h105 => ?_)
          · refine a_iconst C0 0 dX6_shelf_117 rfl ?_
            refine a_iast C0 _ (lt_b rfl) (fun _ => rfl) hv4 rfl dX6_shelf_118 ?_
            refine a_aload_n C0 0 dX6_shelf_119 rfl rfl ?_
            refine g_X6_43 C0 (lt_b rfl) rfl rfl dX6_shelf_120 ?_
            refine a_iload_n C0 1 dX6_shelf_123 rfl rfl ?_
            refine a_iload C0 4 dX6_shelf_124 rfl ?_
            refine a_if_eq C0 138 dX6_shelf_126 rfl (fun h126 => ?_) (fun h126 => ?_)
            · refine a_iconst C0 0 dX6_shelf_138 rfl ?_
              refine a_iast C0 _ (lt_b rfl) (fun _ => rfl) hv4 rfl dX6_shelf_139 ?_
              refine a_iconst C0 1 dX6_shelf_140 rfl ?_
              refine a_iret C0 hr dX6_shelf_141 ?_
              rw [mkM_X (by decide), mkM_X (by decide), mkM_X (by decide)]
              rcases hF with ⟨k0, ht, z0⟩ | ⟨k2, z0⟩ | ⟨k1, hx, z1⟩
              · have c0 : k = 0 ∧ isTl P x := ⟨k0, ht⟩
                refine ⟨_, rfl, by unfold sleR; rw [if_pos h4, if_pos c0], sh3 X (ix v) _ _ _, rfl, sh3_x, ?_⟩
                unfold sleH
                rw [if_pos h4, if_pos c0]
                first
                  | exact absurd k0 h72
                  | exact absurd k0 h96
                  | exact rh.set sh3_o ⟨sh3_0, Or.inr (Or.inl rfl), fun _ => sh3_1, fun q => absurd q (show ¬ (1 : Int32) = 2 by decide)⟩
              · have c0 : ¬ (k = 0 ∧ isTl P x) := fun q => absurd (k2.symm.trans q.1) (by decide)
                have c1 : ¬ (k = 1 ∧ isSh x) := fun q => absurd (k2.symm.trans q.1) (by decide)
                refine ⟨_, rfl, by unfold sleR; rw [if_pos h4, if_neg c0, if_neg c1, if_pos k2], sh3 X (ix v) _ _ _, rfl, sh3_x, ?_⟩
                unfold sleH
                rw [if_pos h4, if_neg c0, if_neg c1, if_pos k2]
                first
                  | exact absurd z0 h81
                  | exact absurd z0 h105
                  | exact absurd z0 h126
                  | exact absurd (h72.symm.trans k2) (by decide)
                  | exact absurd (h96.symm.trans k2) (by decide)
                  | exact rh.set sh3_o ⟨sh3_0, Or.inl rfl, fun q => absurd q (show ¬ (0 : Int32) = 1 by decide), fun q => absurd q (show ¬ (0 : Int32) = 2 by decide)⟩
              · have c0 : ¬ (k = 0 ∧ isTl P x) := fun q => absurd (k1.symm.trans q.1) (by decide)
                have c1 : k = 1 ∧ isSh x := ⟨k1, hx⟩
                refine ⟨_, rfl, by unfold sleR; rw [if_pos h4, if_neg c0, if_pos c1], sh3 X (ix v) _ _ _, rfl, sh3_x, ?_⟩
                unfold sleH
                rw [if_pos h4, if_neg c0, if_pos c1]
                unfold hldW
                obtain ⟨g1, -, cn, g2, g3, g4, -⟩ := rs _ (vp_lt (sh_in hx))
                first
                  | exact absurd (h72.symm.trans k1) (by decide)
                  | exact absurd (h96.symm.trans k1) (by decide)
                  | (by_cases hm : W (2 * ix x) 0 = -1
                     · rw [if_pos hm] at z1 ⊢
                       first
                         | exact absurd z1 h81
                         | exact absurd z1 h105
                         | exact absurd z1 h126
                         | exact rh.set sh3_o ⟨sh3_0, Or.inl rfl, fun q => absurd q (show ¬ (0 : Int32) = 1 by decide), fun q => absurd q (show ¬ (0 : Int32) = 2 by decide)⟩
                     · rw [if_neg hm] at z1 ⊢
                       first
                         | exact absurd (h81.symm.trans z1) (by decide)
                         | exact absurd (h105.symm.trans z1) (by decide)
                         | exact absurd (h126.symm.trans z1) (by decide)
                         | exact rh.set sh3_o ⟨sh3_0, Or.inr (Or.inr rfl), fun q => absurd q (show ¬ (2 : Int32) = 1 by decide), fun _ => ⟨sh3_1.trans g1, sh3_2.trans (g4.trans g3.symm)⟩⟩)
            · refine a_aload_n C0 0 dX6_shelf_129 rfl rfl ?_
              refine g_X6_31 C0 (lt_b rfl) rfl rfl dX6_shelf_130 ?_
              refine a_iload_n C0 3 dX6_shelf_133 rfl rfl ?_
              refine a_iald C0 _ (lt_b rfl) rfl (hxz h126) rfl dX6_shelf_134 ?_
              refine a_goto C0 139 dX6_shelf_135 rfl ?_
              refine a_iast C0 _ (lt_b rfl) (fun _ => rfl) hv4 rfl dX6_shelf_139 ?_
              refine a_iconst C0 1 dX6_shelf_140 rfl ?_
              refine a_iret C0 hr dX6_shelf_141 ?_
              rw [mkM_X (by decide), mkM_X (by decide), mkM_X (by decide)]
              rcases hF with ⟨k0, ht, z0⟩ | ⟨k2, z0⟩ | ⟨k1, hx, z1⟩
              · have c0 : k = 0 ∧ isTl P x := ⟨k0, ht⟩
                refine ⟨_, rfl, by unfold sleR; rw [if_pos h4, if_pos c0], sh3 X (ix v) _ _ _, rfl, sh3_x, ?_⟩
                unfold sleH
                rw [if_pos h4, if_pos c0]
                first
                  | exact absurd k0 h72
                  | exact absurd k0 h96
                  | exact rh.set sh3_o ⟨sh3_0, Or.inr (Or.inl rfl), fun _ => sh3_1, fun q => absurd q (show ¬ (1 : Int32) = 2 by decide)⟩
              · have c0 : ¬ (k = 0 ∧ isTl P x) := fun q => absurd (k2.symm.trans q.1) (by decide)
                have c1 : ¬ (k = 1 ∧ isSh x) := fun q => absurd (k2.symm.trans q.1) (by decide)
                refine ⟨_, rfl, by unfold sleR; rw [if_pos h4, if_neg c0, if_neg c1, if_pos k2], sh3 X (ix v) _ _ _, rfl, sh3_x, ?_⟩
                unfold sleH
                rw [if_pos h4, if_neg c0, if_neg c1, if_pos k2]
                first
                  | exact absurd z0 h81
                  | exact absurd z0 h105
                  | exact absurd z0 h126
                  | exact absurd (h72.symm.trans k2) (by decide)
                  | exact absurd (h96.symm.trans k2) (by decide)
                  | exact rh.set sh3_o ⟨sh3_0, Or.inl rfl, fun q => absurd q (show ¬ (0 : Int32) = 1 by decide), fun q => absurd q (show ¬ (0 : Int32) = 2 by decide)⟩
              · have c0 : ¬ (k = 0 ∧ isTl P x) := fun q => absurd (k1.symm.trans q.1) (by decide)
                have c1 : k = 1 ∧ isSh x := ⟨k1, hx⟩
                refine ⟨_, rfl, by unfold sleR; rw [if_pos h4, if_neg c0, if_pos c1], sh3 X (ix v) _ _ _, rfl, sh3_x, ?_⟩
                unfold sleH
                rw [if_pos h4, if_neg c0, if_pos c1]
                unfold hldW
                obtain ⟨g1, -, cn, g2, g3, g4, -⟩ := rs _ (vp_lt (sh_in hx))
                first
                  | exact absurd (h72.symm.trans k1) (by decide)
                  | exact absurd (h96.symm.trans k1) (by decide)
                  | (by_cases hm : W (2 * ix x) 0 = -1
                     · rw [if_pos hm] at z1 ⊢
                       first
                         | exact absurd z1 h81
                         | exact absurd z1 h105
                         | exact absurd z1 h126
                         | exact rh.set sh3_o ⟨sh3_0, Or.inl rfl, fun q => absurd q (show ¬ (0 : Int32) = 1 by decide), fun q => absurd q (show ¬ (0 : Int32) = 2 by decide)⟩
                     · rw [if_neg hm] at z1 ⊢
                       first
                         | exact absurd (h81.symm.trans z1) (by decide)
                         | exact absurd (h105.symm.trans z1) (by decide)
                         | exact absurd (h126.symm.trans z1) (by decide)
                         | exact rh.set sh3_o ⟨sh3_0, Or.inr (Or.inr rfl), fun q => absurd q (show ¬ (2 : Int32) = 1 by decide), fun _ => ⟨sh3_1.trans g1, sh3_2.trans (g4.trans g3.symm)⟩⟩)
          · refine a_aload_n C0 0 dX6_shelf_108 rfl rfl ?_
            refine g_X6_28 C0 (lt_b rfl) rfl rfl dX6_shelf_109 ?_
            refine a_iload_n C0 3 dX6_shelf_112 rfl rfl ?_
            refine a_iald C0 _ (lt_b rfl) rfl (hxz h105) rfl dX6_shelf_113 ?_
            refine a_goto C0 118 dX6_shelf_114 rfl ?_
            refine a_iast C0 _ (lt_b rfl) (fun _ => rfl) hv4 rfl dX6_shelf_118 ?_
            refine a_aload_n C0 0 dX6_shelf_119 rfl rfl ?_
            refine g_X6_43 C0 (lt_b rfl) rfl rfl dX6_shelf_120 ?_
            refine a_iload_n C0 1 dX6_shelf_123 rfl rfl ?_
            refine a_iload C0 4 dX6_shelf_124 rfl ?_
            refine a_if_eq C0 138 dX6_shelf_126 rfl (fun h126 => ?_) (fun h126 => ?_)
            · refine a_iconst C0 0 dX6_shelf_138 rfl ?_
              refine a_iast C0 _ (lt_b rfl) (fun _ => rfl) hv4 rfl dX6_shelf_139 ?_
              refine a_iconst C0 1 dX6_shelf_140 rfl ?_
              refine a_iret C0 hr dX6_shelf_141 ?_
              rw [mkM_X (by decide), mkM_X (by decide), mkM_X (by decide)]
              rcases hF with ⟨k0, ht, z0⟩ | ⟨k2, z0⟩ | ⟨k1, hx, z1⟩
              · have c0 : k = 0 ∧ isTl P x := ⟨k0, ht⟩
                refine ⟨_, rfl, by unfold sleR; rw [if_pos h4, if_pos c0], sh3 X (ix v) _ _ _, rfl, sh3_x, ?_⟩
                unfold sleH
                rw [if_pos h4, if_pos c0]
                first
                  | exact absurd k0 h72
                  | exact absurd k0 h96
                  | exact rh.set sh3_o ⟨sh3_0, Or.inr (Or.inl rfl), fun _ => sh3_1, fun q => absurd q (show ¬ (1 : Int32) = 2 by decide)⟩
              · have c0 : ¬ (k = 0 ∧ isTl P x) := fun q => absurd (k2.symm.trans q.1) (by decide)
                have c1 : ¬ (k = 1 ∧ isSh x) := fun q => absurd (k2.symm.trans q.1) (by decide)
                refine ⟨_, rfl, by unfold sleR; rw [if_pos h4, if_neg c0, if_neg c1, if_pos k2], sh3 X (ix v) _ _ _, rfl, sh3_x, ?_⟩
                unfold sleH
                rw [if_pos h4, if_neg c0, if_neg c1, if_pos k2]
                first
                  | exact absurd z0 h81
                  | exact absurd z0 h105
                  | exact absurd z0 h126
                  | exact absurd (h72.symm.trans k2) (by decide)
                  | exact absurd (h96.symm.trans k2) (by decide)
                  | exact rh.set sh3_o ⟨sh3_0, Or.inl rfl, fun q => absurd q (show ¬ (0 : Int32) = 1 by decide), fun q => absurd q (show ¬ (0 : Int32) = 2 by decide)⟩
              · have c0 : ¬ (k = 0 ∧ isTl P x) := fun q => absurd (k1.symm.trans q.1) (by decide)
                have c1 : k = 1 ∧ isSh x := ⟨k1, hx⟩
                refine ⟨_, rfl, by unfold sleR; rw [if_pos h4, if_neg c0, if_pos c1], sh3 X (ix v) _ _ _, rfl, sh3_x, ?_⟩
                unfold sleH
                rw [if_pos h4, if_neg c0, if_pos c1]
                unfold hldW
                obtain ⟨g1, -, cn, g2, g3, g4, -⟩ := rs _ (vp_lt (sh_in hx))
                first
                  | exact absurd (h72.symm.trans k1) (by decide)
                  | exact absurd (h96.symm.trans k1) (by decide)
                  | (by_cases hm : W (2 * ix x) 0 = -1
                     · rw [if_pos hm] at z1 ⊢
                       first
                         | exact absurd z1 h81
                         | exact absurd z1 h105
                         | exact absurd z1 h126
                         | exact rh.set sh3_o ⟨sh3_0, Or.inl rfl, fun q => absurd q (show ¬ (0 : Int32) = 1 by decide), fun q => absurd q (show ¬ (0 : Int32) = 2 by decide)⟩
                     · rw [if_neg hm] at z1 ⊢
                       first
                         | exact absurd (h81.symm.trans z1) (by decide)
                         | exact absurd (h105.symm.trans z1) (by decide)
                         | exact absurd (h126.symm.trans z1) (by decide)
                         | exact rh.set sh3_o ⟨sh3_0, Or.inr (Or.inr rfl), fun q => absurd q (show ¬ (2 : Int32) = 1 by decide), fun _ => ⟨sh3_1.trans g1, sh3_2.trans (g4.trans g3.symm)⟩⟩)
            · refine a_aload_n C0 0 dX6_shelf_129 rfl rfl ?_
              refine g_X6_31 C0 (lt_b rfl) rfl rfl dX6_shelf_130 ?_
              refine a_iload_n C0 3 dX6_shelf_133 rfl rfl ?_
              refine a_iald C0 _ (lt_b rfl) rfl (hxz h126) rfl dX6_shelf_134 ?_
              refine a_goto C0 139 dX6_shelf_135 rfl ?_
              refine a_iast C0 _ (lt_b rfl) (fun _ => rfl) hv4 rfl dX6_shelf_139 ?_
              refine a_iconst C0 1 dX6_shelf_140 rfl ?_
              refine a_iret C0 hr dX6_shelf_141 ?_
              rw [mkM_X (by decide), mkM_X (by decide), mkM_X (by decide)]
              rcases hF with ⟨k0, ht, z0⟩ | ⟨k2, z0⟩ | ⟨k1, hx, z1⟩
              · have c0 : k = 0 ∧ isTl P x := ⟨k0, ht⟩
                refine ⟨_, rfl, by unfold sleR; rw [if_pos h4, if_pos c0], sh3 X (ix v) _ _ _, rfl, sh3_x, ?_⟩
                unfold sleH
                rw [if_pos h4, if_pos c0]
                first
                  | exact absurd k0 h72
                  | exact absurd k0 h96
                  | exact rh.set sh3_o ⟨sh3_0, Or.inr (Or.inl rfl), fun _ => sh3_1, fun q => absurd q (show ¬ (1 : Int32) = 2 by decide)⟩
              · have c0 : ¬ (k = 0 ∧ isTl P x) := fun q => absurd (k2.symm.trans q.1) (by decide)
                have c1 : ¬ (k = 1 ∧ isSh x) := fun q => absurd (k2.symm.trans q.1) (by decide)
                refine ⟨_, rfl, by unfold sleR; rw [if_pos h4, if_neg c0, if_neg c1, if_pos k2], sh3 X (ix v) _ _ _, rfl, sh3_x, ?_⟩
                unfold sleH
                rw [if_pos h4, if_neg c0, if_neg c1, if_pos k2]
                first
                  | exact absurd z0 h81
                  | exact absurd z0 h105
                  | exact absurd z0 h126
                  | exact absurd (h72.symm.trans k2) (by decide)
                  | exact absurd (h96.symm.trans k2) (by decide)
                  | exact rh.set sh3_o ⟨sh3_0, Or.inl rfl, fun q => absurd q (show ¬ (0 : Int32) = 1 by decide), fun q => absurd q (show ¬ (0 : Int32) = 2 by decide)⟩
              · have c0 : ¬ (k = 0 ∧ isTl P x) := fun q => absurd (k1.symm.trans q.1) (by decide)
                have c1 : k = 1 ∧ isSh x := ⟨k1, hx⟩
                refine ⟨_, rfl, by unfold sleR; rw [if_pos h4, if_neg c0, if_pos c1], sh3 X (ix v) _ _ _, rfl, sh3_x, ?_⟩
                unfold sleH
                rw [if_pos h4, if_neg c0, if_pos c1]
                unfold hldW
                obtain ⟨g1, -, cn, g2, g3, g4, -⟩ := rs _ (vp_lt (sh_in hx))
                first
                  | exact absurd (h72.symm.trans k1) (by decide)
                  | exact absurd (h96.symm.trans k1) (by decide)
                  | (by_cases hm : W (2 * ix x) 0 = -1
                     · rw [if_pos hm] at z1 ⊢
                       first
                         | exact absurd z1 h81
                         | exact absurd z1 h105
                         | exact absurd z1 h126
                         | exact rh.set sh3_o ⟨sh3_0, Or.inl rfl, fun q => absurd q (show ¬ (0 : Int32) = 1 by decide), fun q => absurd q (show ¬ (0 : Int32) = 2 by decide)⟩
                     · rw [if_neg hm] at z1 ⊢
                       first
                         | exact absurd (h81.symm.trans z1) (by decide)
                         | exact absurd (h105.symm.trans z1) (by decide)
                         | exact absurd (h126.symm.trans z1) (by decide)
                         | exact rh.set sh3_o ⟨sh3_0, Or.inr (Or.inr rfl), fun q => absurd q (show ¬ (2 : Int32) = 1 by decide), fun _ => ⟨sh3_1.trans g1, sh3_2.trans (g4.trans g3.symm)⟩⟩)
        · refine a_iload_n C0 3 dX6_shelf_99 rfl rfl ?_
          refine a_goto C0 118 dX6_shelf_100 rfl ?_
          refine a_iast C0 _ (lt_b rfl) (fun _ => rfl) hv4 rfl dX6_shelf_118 ?_
          refine a_aload_n C0 0 dX6_shelf_119 rfl rfl ?_
          refine g_X6_43 C0 (lt_b rfl) rfl rfl dX6_shelf_120 ?_
          refine a_iload_n C0 1 dX6_shelf_123 rfl rfl ?_
          refine a_iload C0 4 dX6_shelf_124 rfl ?_
          refine a_if_eq C0 138 dX6_shelf_126 rfl (fun h126 => ?_) (fun h126 => ?_)
          · refine a_iconst C0 0 dX6_shelf_138 rfl ?_
            refine a_iast C0 _ (lt_b rfl) (fun _ => rfl) hv4 rfl dX6_shelf_139 ?_
            refine a_iconst C0 1 dX6_shelf_140 rfl ?_
            refine a_iret C0 hr dX6_shelf_141 ?_
            rw [mkM_X (by decide), mkM_X (by decide), mkM_X (by decide)]
            rcases hF with ⟨k0, ht, z0⟩ | ⟨k2, z0⟩ | ⟨k1, hx, z1⟩
            · have c0 : k = 0 ∧ isTl P x := ⟨k0, ht⟩
              refine ⟨_, rfl, by unfold sleR; rw [if_pos h4, if_pos c0], sh3 X (ix v) _ _ _, rfl, sh3_x, ?_⟩
              unfold sleH
              rw [if_pos h4, if_pos c0]
              first
                | exact absurd k0 h72
                | exact absurd k0 h96
                | exact rh.set sh3_o ⟨sh3_0, Or.inr (Or.inl rfl), fun _ => sh3_1, fun q => absurd q (show ¬ (1 : Int32) = 2 by decide)⟩
            · have c0 : ¬ (k = 0 ∧ isTl P x) := fun q => absurd (k2.symm.trans q.1) (by decide)
              have c1 : ¬ (k = 1 ∧ isSh x) := fun q => absurd (k2.symm.trans q.1) (by decide)
              refine ⟨_, rfl, by unfold sleR; rw [if_pos h4, if_neg c0, if_neg c1, if_pos k2], sh3 X (ix v) _ _ _, rfl, sh3_x, ?_⟩
              unfold sleH
              rw [if_pos h4, if_neg c0, if_neg c1, if_pos k2]
              first
                | exact absurd z0 h81
                | exact absurd z0 h105
                | exact absurd z0 h126
                | exact absurd (h72.symm.trans k2) (by decide)
                | exact absurd (h96.symm.trans k2) (by decide)
                | exact rh.set sh3_o ⟨sh3_0, Or.inl rfl, fun q => absurd q (show ¬ (0 : Int32) = 1 by decide), fun q => absurd q (show ¬ (0 : Int32) = 2 by decide)⟩
            · have c0 : ¬ (k = 0 ∧ isTl P x) := fun q => absurd (k1.symm.trans q.1) (by decide)
              have c1 : k = 1 ∧ isSh x := ⟨k1, hx⟩
              refine ⟨_, rfl, by unfold sleR; rw [if_pos h4, if_neg c0, if_pos c1], sh3 X (ix v) _ _ _, rfl, sh3_x, ?_⟩
              unfold sleH
              rw [if_pos h4, if_neg c0, if_pos c1]
              unfold hldW
              obtain ⟨g1, -, cn, g2, g3, g4, -⟩ := rs _ (vp_lt (sh_in hx))
              first
                | exact absurd (h72.symm.trans k1) (by decide)
                | exact absurd (h96.symm.trans k1) (by decide)
                | (by_cases hm : W (2 * ix x) 0 = -1
                   · rw [if_pos hm] at z1 ⊢
                     first
                       | exact absurd z1 h81
                       | exact absurd z1 h105
                       | exact absurd z1 h126
                       | exact rh.set sh3_o ⟨sh3_0, Or.inl rfl, fun q => absurd q (show ¬ (0 : Int32) = 1 by decide), fun q => absurd q (show ¬ (0 : Int32) = 2 by decide)⟩
                   · rw [if_neg hm] at z1 ⊢
                     first
                       | exact absurd (h81.symm.trans z1) (by decide)
                       | exact absurd (h105.symm.trans z1) (by decide)
                       | exact absurd (h126.symm.trans z1) (by decide)
                       | exact rh.set sh3_o ⟨sh3_0, Or.inr (Or.inr rfl), fun q => absurd q (show ¬ (2 : Int32) = 1 by decide), fun _ => ⟨sh3_1.trans g1, sh3_2.trans (g4.trans g3.symm)⟩⟩)
          · refine a_aload_n C0 0 dX6_shelf_129 rfl rfl ?_
            refine g_X6_31 C0 (lt_b rfl) rfl rfl dX6_shelf_130 ?_
            refine a_iload_n C0 3 dX6_shelf_133 rfl rfl ?_
            refine a_iald C0 _ (lt_b rfl) rfl (hxz h126) rfl dX6_shelf_134 ?_
            refine a_goto C0 139 dX6_shelf_135 rfl ?_
            refine a_iast C0 _ (lt_b rfl) (fun _ => rfl) hv4 rfl dX6_shelf_139 ?_
            refine a_iconst C0 1 dX6_shelf_140 rfl ?_
            refine a_iret C0 hr dX6_shelf_141 ?_
            rw [mkM_X (by decide), mkM_X (by decide), mkM_X (by decide)]
            rcases hF with ⟨k0, ht, z0⟩ | ⟨k2, z0⟩ | ⟨k1, hx, z1⟩
            · have c0 : k = 0 ∧ isTl P x := ⟨k0, ht⟩
              refine ⟨_, rfl, by unfold sleR; rw [if_pos h4, if_pos c0], sh3 X (ix v) _ _ _, rfl, sh3_x, ?_⟩
              unfold sleH
              rw [if_pos h4, if_pos c0]
              first
                | exact absurd k0 h72
                | exact absurd k0 h96
                | exact rh.set sh3_o ⟨sh3_0, Or.inr (Or.inl rfl), fun _ => sh3_1, fun q => absurd q (show ¬ (1 : Int32) = 2 by decide)⟩
            · have c0 : ¬ (k = 0 ∧ isTl P x) := fun q => absurd (k2.symm.trans q.1) (by decide)
              have c1 : ¬ (k = 1 ∧ isSh x) := fun q => absurd (k2.symm.trans q.1) (by decide)
              refine ⟨_, rfl, by unfold sleR; rw [if_pos h4, if_neg c0, if_neg c1, if_pos k2], sh3 X (ix v) _ _ _, rfl, sh3_x, ?_⟩
              unfold sleH
              rw [if_pos h4, if_neg c0, if_neg c1, if_pos k2]
              first
                | exact absurd z0 h81
                | exact absurd z0 h105
                | exact absurd z0 h126
                | exact absurd (h72.symm.trans k2) (by decide)
                | exact absurd (h96.symm.trans k2) (by decide)
                | exact rh.set sh3_o ⟨sh3_0, Or.inl rfl, fun q => absurd q (show ¬ (0 : Int32) = 1 by decide), fun q => absurd q (show ¬ (0 : Int32) = 2 by decide)⟩
            · have c0 : ¬ (k = 0 ∧ isTl P x) := fun q => absurd (k1.symm.trans q.1) (by decide)
              have c1 : k = 1 ∧ isSh x := ⟨k1, hx⟩
              refine ⟨_, rfl, by unfold sleR; rw [if_pos h4, if_neg c0, if_pos c1], sh3 X (ix v) _ _ _, rfl, sh3_x, ?_⟩
              unfold sleH
              rw [if_pos h4, if_neg c0, if_pos c1]
              unfold hldW
              obtain ⟨g1, -, cn, g2, g3, g4, -⟩ := rs _ (vp_lt (sh_in hx))
              first
                | exact absurd (h72.symm.trans k1) (by decide)
                | exact absurd (h96.symm.trans k1) (by decide)
                | (by_cases hm : W (2 * ix x) 0 = -1
                   · rw [if_pos hm] at z1 ⊢
                     first
                       | exact absurd z1 h81
                       | exact absurd z1 h105
                       | exact absurd z1 h126
                       | exact rh.set sh3_o ⟨sh3_0, Or.inl rfl, fun q => absurd q (show ¬ (0 : Int32) = 1 by decide), fun q => absurd q (show ¬ (0 : Int32) = 2 by decide)⟩
                   · rw [if_neg hm] at z1 ⊢
                     first
                       | exact absurd (h81.symm.trans z1) (by decide)
                       | exact absurd (h105.symm.trans z1) (by decide)
                       | exact absurd (h126.symm.trans z1) (by decide)
                       | exact rh.set sh3_o ⟨sh3_0, Or.inr (Or.inr rfl), fun q => absurd q (show ¬ (2 : Int32) = 1 by decide), fun _ => ⟨sh3_1.trans g1, sh3_2.trans (g4.trans g3.symm)⟩⟩)
    · refine a_iconst C0 1 dX6_shelf_75 rfl ?_
      refine a_goto C0 89 dX6_shelf_76 rfl ?_
      refine a_iast C0 _ (lt_b rfl) (fun _ => rfl) hv4 rfl dX6_shelf_89 ?_
      refine a_aload_n C0 0 dX6_shelf_90 rfl rfl ?_
      refine g_X6_40 C0 (lt_b rfl) rfl rfl dX6_shelf_91 ?_
      refine a_iload_n C0 1 dX6_shelf_94 rfl rfl ?_
      refine a_iload_n C0 2 dX6_shelf_95 rfl rfl ?_
      refine a_if_ne C0 103 dX6_shelf_96 rfl (fun h96 => ?_) (fun h96 => ?_)
      · refine a_iload C0 4 dX6_shelf_103 rfl ?_
        refine a_if_eq C0 117 dX6_shelf_105 rfl (fun h105 => ?_) (fun h105 => ?_)
        · refine a_iconst C0 0 dX6_shelf_117 rfl ?_
          refine a_iast C0 _ (lt_b rfl) (fun _ => rfl) hv4 rfl dX6_shelf_118 ?_
          refine a_aload_n C0 0 dX6_shelf_119 rfl rfl ?_
          refine g_X6_43 C0 (lt_b rfl) rfl rfl dX6_shelf_120 ?_
          refine a_iload_n C0 1 dX6_shelf_123 rfl rfl ?_
          refine a_iload C0 4 dX6_shelf_124 rfl ?_
          refine a_if_eq C0 138 dX6_shelf_126 rfl (fun h126 => ?_) (fun h126 => ?_)
          · refine a_iconst C0 0 dX6_shelf_138 rfl ?_
            refine a_iast C0 _ (lt_b rfl) (fun _ => rfl) hv4 rfl dX6_shelf_139 ?_
            refine a_iconst C0 1 dX6_shelf_140 rfl ?_
            refine a_iret C0 hr dX6_shelf_141 ?_
            rw [mkM_X (by decide), mkM_X (by decide), mkM_X (by decide)]
            rcases hF with ⟨k0, ht, z0⟩ | ⟨k2, z0⟩ | ⟨k1, hx, z1⟩
            · have c0 : k = 0 ∧ isTl P x := ⟨k0, ht⟩
              refine ⟨_, rfl, by unfold sleR; rw [if_pos h4, if_pos c0], sh3 X (ix v) _ _ _, rfl, sh3_x, ?_⟩
              unfold sleH
              rw [if_pos h4, if_pos c0]
              first
                | exact absurd k0 h72
                | exact absurd k0 h96
                | exact rh.set sh3_o ⟨sh3_0, Or.inr (Or.inl rfl), fun _ => sh3_1, fun q => absurd q (show ¬ (1 : Int32) = 2 by decide)⟩
            · have c0 : ¬ (k = 0 ∧ isTl P x) := fun q => absurd (k2.symm.trans q.1) (by decide)
              have c1 : ¬ (k = 1 ∧ isSh x) := fun q => absurd (k2.symm.trans q.1) (by decide)
              refine ⟨_, rfl, by unfold sleR; rw [if_pos h4, if_neg c0, if_neg c1, if_pos k2], sh3 X (ix v) _ _ _, rfl, sh3_x, ?_⟩
              unfold sleH
              rw [if_pos h4, if_neg c0, if_neg c1, if_pos k2]
              first
                | exact absurd z0 h81
                | exact absurd z0 h105
                | exact absurd z0 h126
                | exact absurd (h72.symm.trans k2) (by decide)
                | exact absurd (h96.symm.trans k2) (by decide)
                | exact rh.set sh3_o ⟨sh3_0, Or.inl rfl, fun q => absurd q (show ¬ (0 : Int32) = 1 by decide), fun q => absurd q (show ¬ (0 : Int32) = 2 by decide)⟩
            · have c0 : ¬ (k = 0 ∧ isTl P x) := fun q => absurd (k1.symm.trans q.1) (by decide)
              have c1 : k = 1 ∧ isSh x := ⟨k1, hx⟩
              refine ⟨_, rfl, by unfold sleR; rw [if_pos h4, if_neg c0, if_pos c1], sh3 X (ix v) _ _ _, rfl, sh3_x, ?_⟩
              unfold sleH
              rw [if_pos h4, if_neg c0, if_pos c1]
              unfold hldW
              obtain ⟨g1, -, cn, g2, g3, g4, -⟩ := rs _ (vp_lt (sh_in hx))
              first
                | exact absurd (h72.symm.trans k1) (by decide)
                | exact absurd (h96.symm.trans k1) (by decide)
                | (by_cases hm : W (2 * ix x) 0 = -1
                   · rw [if_pos hm] at z1 ⊢
                     first
                       | exact absurd z1 h81
                       | exact absurd z1 h105
                       | exact absurd z1 h126
                       | exact rh.set sh3_o ⟨sh3_0, Or.inl rfl, fun q => absurd q (show ¬ (0 : Int32) = 1 by decide), fun q => absurd q (show ¬ (0 : Int32) = 2 by decide)⟩
                   · rw [if_neg hm] at z1 ⊢
                     first
                       | exact absurd (h81.symm.trans z1) (by decide)
                       | exact absurd (h105.symm.trans z1) (by decide)
                       | exact absurd (h126.symm.trans z1) (by decide)
                       | exact rh.set sh3_o ⟨sh3_0, Or.inr (Or.inr rfl), fun q => absurd q (show ¬ (2 : Int32) = 1 by decide), fun _ => ⟨sh3_1.trans g1, sh3_2.trans (g4.trans g3.symm)⟩⟩)
          · refine a_aload_n C0 0 dX6_shelf_129 rfl rfl ?_
            refine g_X6_31 C0 (lt_b rfl) rfl rfl dX6_shelf_130 ?_
            refine a_iload_n C0 3 dX6_shelf_133 rfl rfl ?_
            refine a_iald C0 _ (lt_b rfl) rfl (hxz h126) rfl dX6_shelf_134 ?_
            refine a_goto C0 139 dX6_shelf_135 rfl ?_
            refine a_iast C0 _ (lt_b rfl) (fun _ => rfl) hv4 rfl dX6_shelf_139 ?_
            refine a_iconst C0 1 dX6_shelf_140 rfl ?_
            refine a_iret C0 hr dX6_shelf_141 ?_
            rw [mkM_X (by decide), mkM_X (by decide), mkM_X (by decide)]
            rcases hF with ⟨k0, ht, z0⟩ | ⟨k2, z0⟩ | ⟨k1, hx, z1⟩
            · have c0 : k = 0 ∧ isTl P x := ⟨k0, ht⟩
              refine ⟨_, rfl, by unfold sleR; rw [if_pos h4, if_pos c0], sh3 X (ix v) _ _ _, rfl, sh3_x, ?_⟩
              unfold sleH
              rw [if_pos h4, if_pos c0]
              first
                | exact absurd k0 h72
                | exact absurd k0 h96
                | exact rh.set sh3_o ⟨sh3_0, Or.inr (Or.inl rfl), fun _ => sh3_1, fun q => absurd q (show ¬ (1 : Int32) = 2 by decide)⟩
            · have c0 : ¬ (k = 0 ∧ isTl P x) := fun q => absurd (k2.symm.trans q.1) (by decide)
              have c1 : ¬ (k = 1 ∧ isSh x) := fun q => absurd (k2.symm.trans q.1) (by decide)
              refine ⟨_, rfl, by unfold sleR; rw [if_pos h4, if_neg c0, if_neg c1, if_pos k2], sh3 X (ix v) _ _ _, rfl, sh3_x, ?_⟩
              unfold sleH
              rw [if_pos h4, if_neg c0, if_neg c1, if_pos k2]
              first
                | exact absurd z0 h81
                | exact absurd z0 h105
                | exact absurd z0 h126
                | exact absurd (h72.symm.trans k2) (by decide)
                | exact absurd (h96.symm.trans k2) (by decide)
                | exact rh.set sh3_o ⟨sh3_0, Or.inl rfl, fun q => absurd q (show ¬ (0 : Int32) = 1 by decide), fun q => absurd q (show ¬ (0 : Int32) = 2 by decide)⟩
            · have c0 : ¬ (k = 0 ∧ isTl P x) := fun q => absurd (k1.symm.trans q.1) (by decide)
              have c1 : k = 1 ∧ isSh x := ⟨k1, hx⟩
              refine ⟨_, rfl, by unfold sleR; rw [if_pos h4, if_neg c0, if_pos c1], sh3 X (ix v) _ _ _, rfl, sh3_x, ?_⟩
              unfold sleH
              rw [if_pos h4, if_neg c0, if_pos c1]
              unfold hldW
              obtain ⟨g1, -, cn, g2, g3, g4, -⟩ := rs _ (vp_lt (sh_in hx))
              first
                | exact absurd (h72.symm.trans k1) (by decide)
                | exact absurd (h96.symm.trans k1) (by decide)
                | (by_cases hm : W (2 * ix x) 0 = -1
                   · rw [if_pos hm] at z1 ⊢
                     first
                       | exact absurd z1 h81
                       | exact absurd z1 h105
                       | exact absurd z1 h126
                       | exact rh.set sh3_o ⟨sh3_0, Or.inl rfl, fun q => absurd q (show ¬ (0 : Int32) = 1 by decide), fun q => absurd q (show ¬ (0 : Int32) = 2 by decide)⟩
                   · rw [if_neg hm] at z1 ⊢
                     first
                       | exact absurd (h81.symm.trans z1) (by decide)
                       | exact absurd (h105.symm.trans z1) (by decide)
                       | exact absurd (h126.symm.trans z1) (by decide)
                       | exact rh.set sh3_o ⟨sh3_0, Or.inr (Or.inr rfl), fun q => absurd q (show ¬ (2 : Int32) = 1 by decide), fun _ => ⟨sh3_1.trans g1, sh3_2.trans (g4.trans g3.symm)⟩⟩)
        · refine a_aload_n C0 0 dX6_shelf_108 rfl rfl ?_
          refine g_X6_28 C0 (lt_b rfl) rfl rfl dX6_shelf_109 ?_
          refine a_iload_n C0 3 dX6_shelf_112 rfl rfl ?_
          refine a_iald C0 _ (lt_b rfl) rfl (hxz h105) rfl dX6_shelf_113 ?_
          refine a_goto C0 118 dX6_shelf_114 rfl ?_
          refine a_iast C0 _ (lt_b rfl) (fun _ => rfl) hv4 rfl dX6_shelf_118 ?_
          refine a_aload_n C0 0 dX6_shelf_119 rfl rfl ?_
          refine g_X6_43 C0 (lt_b rfl) rfl rfl dX6_shelf_120 ?_
          refine a_iload_n C0 1 dX6_shelf_123 rfl rfl ?_
          refine a_iload C0 4 dX6_shelf_124 rfl ?_
          refine a_if_eq C0 138 dX6_shelf_126 rfl (fun h126 => ?_) (fun h126 => ?_)
          · refine a_iconst C0 0 dX6_shelf_138 rfl ?_
            refine a_iast C0 _ (lt_b rfl) (fun _ => rfl) hv4 rfl dX6_shelf_139 ?_
            refine a_iconst C0 1 dX6_shelf_140 rfl ?_
            refine a_iret C0 hr dX6_shelf_141 ?_
            rw [mkM_X (by decide), mkM_X (by decide), mkM_X (by decide)]
            rcases hF with ⟨k0, ht, z0⟩ | ⟨k2, z0⟩ | ⟨k1, hx, z1⟩
            · have c0 : k = 0 ∧ isTl P x := ⟨k0, ht⟩
              refine ⟨_, rfl, by unfold sleR; rw [if_pos h4, if_pos c0], sh3 X (ix v) _ _ _, rfl, sh3_x, ?_⟩
              unfold sleH
              rw [if_pos h4, if_pos c0]
              first
                | exact absurd k0 h72
                | exact absurd k0 h96
                | exact rh.set sh3_o ⟨sh3_0, Or.inr (Or.inl rfl), fun _ => sh3_1, fun q => absurd q (show ¬ (1 : Int32) = 2 by decide)⟩
            · have c0 : ¬ (k = 0 ∧ isTl P x) := fun q => absurd (k2.symm.trans q.1) (by decide)
              have c1 : ¬ (k = 1 ∧ isSh x) := fun q => absurd (k2.symm.trans q.1) (by decide)
              refine ⟨_, rfl, by unfold sleR; rw [if_pos h4, if_neg c0, if_neg c1, if_pos k2], sh3 X (ix v) _ _ _, rfl, sh3_x, ?_⟩
              unfold sleH
              rw [if_pos h4, if_neg c0, if_neg c1, if_pos k2]
              first
                | exact absurd z0 h81
                | exact absurd z0 h105
                | exact absurd z0 h126
                | exact absurd (h72.symm.trans k2) (by decide)
                | exact absurd (h96.symm.trans k2) (by decide)
                | exact rh.set sh3_o ⟨sh3_0, Or.inl rfl, fun q => absurd q (show ¬ (0 : Int32) = 1 by decide), fun q => absurd q (show ¬ (0 : Int32) = 2 by decide)⟩
            · have c0 : ¬ (k = 0 ∧ isTl P x) := fun q => absurd (k1.symm.trans q.1) (by decide)
              have c1 : k = 1 ∧ isSh x := ⟨k1, hx⟩
              refine ⟨_, rfl, by unfold sleR; rw [if_pos h4, if_neg c0, if_pos c1], sh3 X (ix v) _ _ _, rfl, sh3_x, ?_⟩
              unfold sleH
              rw [if_pos h4, if_neg c0, if_pos c1]
              unfold hldW
              obtain ⟨g1, -, cn, g2, g3, g4, -⟩ := rs _ (vp_lt (sh_in hx))
              first
                | exact absurd (h72.symm.trans k1) (by decide)
                | exact absurd (h96.symm.trans k1) (by decide)
                | (by_cases hm : W (2 * ix x) 0 = -1
                   · rw [if_pos hm] at z1 ⊢
                     first
                       | exact absurd z1 h81
                       | exact absurd z1 h105
                       | exact absurd z1 h126
                       | exact rh.set sh3_o ⟨sh3_0, Or.inl rfl, fun q => absurd q (show ¬ (0 : Int32) = 1 by decide), fun q => absurd q (show ¬ (0 : Int32) = 2 by decide)⟩
                   · rw [if_neg hm] at z1 ⊢
                     first
                       | exact absurd (h81.symm.trans z1) (by decide)
                       | exact absurd (h105.symm.trans z1) (by decide)
                       | exact absurd (h126.symm.trans z1) (by decide)
                       | exact rh.set sh3_o ⟨sh3_0, Or.inr (Or.inr rfl), fun q => absurd q (show ¬ (2 : Int32) = 1 by decide), fun _ => ⟨sh3_1.trans g1, sh3_2.trans (g4.trans g3.symm)⟩⟩)
          · refine a_aload_n C0 0 dX6_shelf_129 rfl rfl ?_
            refine g_X6_31 C0 (lt_b rfl) rfl rfl dX6_shelf_130 ?_
            refine a_iload_n C0 3 dX6_shelf_133 rfl rfl ?_
            refine a_iald C0 _ (lt_b rfl) rfl (hxz h126) rfl dX6_shelf_134 ?_
            refine a_goto C0 139 dX6_shelf_135 rfl ?_
            refine a_iast C0 _ (lt_b rfl) (fun _ => rfl) hv4 rfl dX6_shelf_139 ?_
            refine a_iconst C0 1 dX6_shelf_140 rfl ?_
            refine a_iret C0 hr dX6_shelf_141 ?_
            rw [mkM_X (by decide), mkM_X (by decide), mkM_X (by decide)]
            rcases hF with ⟨k0, ht, z0⟩ | ⟨k2, z0⟩ | ⟨k1, hx, z1⟩
            · have c0 : k = 0 ∧ isTl P x := ⟨k0, ht⟩
              refine ⟨_, rfl, by unfold sleR; rw [if_pos h4, if_pos c0], sh3 X (ix v) _ _ _, rfl, sh3_x, ?_⟩
              unfold sleH
              rw [if_pos h4, if_pos c0]
              first
                | exact absurd k0 h72
                | exact absurd k0 h96
                | exact rh.set sh3_o ⟨sh3_0, Or.inr (Or.inl rfl), fun _ => sh3_1, fun q => absurd q (show ¬ (1 : Int32) = 2 by decide)⟩
            · have c0 : ¬ (k = 0 ∧ isTl P x) := fun q => absurd (k2.symm.trans q.1) (by decide)
              have c1 : ¬ (k = 1 ∧ isSh x) := fun q => absurd (k2.symm.trans q.1) (by decide)
              refine ⟨_, rfl, by unfold sleR; rw [if_pos h4, if_neg c0, if_neg c1, if_pos k2], sh3 X (ix v) _ _ _, rfl, sh3_x, ?_⟩
              unfold sleH
              rw [if_pos h4, if_neg c0, if_neg c1, if_pos k2]
              first
                | exact absurd z0 h81
                | exact absurd z0 h105
                | exact absurd z0 h126
                | exact absurd (h72.symm.trans k2) (by decide)
                | exact absurd (h96.symm.trans k2) (by decide)
                | exact rh.set sh3_o ⟨sh3_0, Or.inl rfl, fun q => absurd q (show ¬ (0 : Int32) = 1 by decide), fun q => absurd q (show ¬ (0 : Int32) = 2 by decide)⟩
            · have c0 : ¬ (k = 0 ∧ isTl P x) := fun q => absurd (k1.symm.trans q.1) (by decide)
              have c1 : k = 1 ∧ isSh x := ⟨k1, hx⟩
              refine ⟨_, rfl, by unfold sleR; rw [if_pos h4, if_neg c0, if_pos c1], sh3 X (ix v) _ _ _, rfl, sh3_x, ?_⟩
              unfold sleH
              rw [if_pos h4, if_neg c0, if_pos c1]
              unfold hldW
              obtain ⟨g1, -, cn, g2, g3, g4, -⟩ := rs _ (vp_lt (sh_in hx))
              first
                | exact absurd (h72.symm.trans k1) (by decide)
                | exact absurd (h96.symm.trans k1) (by decide)
                | (by_cases hm : W (2 * ix x) 0 = -1
                   · rw [if_pos hm] at z1 ⊢
                     first
                       | exact absurd z1 h81
                       | exact absurd z1 h105
                       | exact absurd z1 h126
                       | exact rh.set sh3_o ⟨sh3_0, Or.inl rfl, fun q => absurd q (show ¬ (0 : Int32) = 1 by decide), fun q => absurd q (show ¬ (0 : Int32) = 2 by decide)⟩
                   · rw [if_neg hm] at z1 ⊢
                     first
                       | exact absurd (h81.symm.trans z1) (by decide)
                       | exact absurd (h105.symm.trans z1) (by decide)
                       | exact absurd (h126.symm.trans z1) (by decide)
                       | exact rh.set sh3_o ⟨sh3_0, Or.inr (Or.inr rfl), fun q => absurd q (show ¬ (2 : Int32) = 1 by decide), fun _ => ⟨sh3_1.trans g1, sh3_2.trans (g4.trans g3.symm)⟩⟩)
      · refine a_iload_n C0 3 dX6_shelf_99 rfl rfl ?_
        refine a_goto C0 118 dX6_shelf_100 rfl ?_
        refine a_iast C0 _ (lt_b rfl) (fun _ => rfl) hv4 rfl dX6_shelf_118 ?_
        refine a_aload_n C0 0 dX6_shelf_119 rfl rfl ?_
        refine g_X6_43 C0 (lt_b rfl) rfl rfl dX6_shelf_120 ?_
        refine a_iload_n C0 1 dX6_shelf_123 rfl rfl ?_
        refine a_iload C0 4 dX6_shelf_124 rfl ?_
        refine a_if_eq C0 138 dX6_shelf_126 rfl (fun h126 => ?_) (fun h126 => ?_)
        · refine a_iconst C0 0 dX6_shelf_138 rfl ?_
          refine a_iast C0 _ (lt_b rfl) (fun _ => rfl) hv4 rfl dX6_shelf_139 ?_
          refine a_iconst C0 1 dX6_shelf_140 rfl ?_
          refine a_iret C0 hr dX6_shelf_141 ?_
          rw [mkM_X (by decide), mkM_X (by decide), mkM_X (by decide)]
          rcases hF with ⟨k0, ht, z0⟩ | ⟨k2, z0⟩ | ⟨k1, hx, z1⟩
          · have c0 : k = 0 ∧ isTl P x := ⟨k0, ht⟩
            refine ⟨_, rfl, by unfold sleR; rw [if_pos h4, if_pos c0], sh3 X (ix v) _ _ _, rfl, sh3_x, ?_⟩
            unfold sleH
            rw [if_pos h4, if_pos c0]
            first
              | exact absurd k0 h72
              | exact absurd k0 h96
              | exact rh.set sh3_o ⟨sh3_0, Or.inr (Or.inl rfl), fun _ => sh3_1, fun q => absurd q (show ¬ (1 : Int32) = 2 by decide)⟩
          · have c0 : ¬ (k = 0 ∧ isTl P x) := fun q => absurd (k2.symm.trans q.1) (by decide)
            have c1 : ¬ (k = 1 ∧ isSh x) := fun q => absurd (k2.symm.trans q.1) (by decide)
            refine ⟨_, rfl, by unfold sleR; rw [if_pos h4, if_neg c0, if_neg c1, if_pos k2], sh3 X (ix v) _ _ _, rfl, sh3_x, ?_⟩
            unfold sleH
            rw [if_pos h4, if_neg c0, if_neg c1, if_pos k2]
            first
              | exact absurd z0 h81
              | exact absurd z0 h105
              | exact absurd z0 h126
              | exact absurd (h72.symm.trans k2) (by decide)
              | exact absurd (h96.symm.trans k2) (by decide)
              | exact rh.set sh3_o ⟨sh3_0, Or.inl rfl, fun q => absurd q (show ¬ (0 : Int32) = 1 by decide), fun q => absurd q (show ¬ (0 : Int32) = 2 by decide)⟩
          · have c0 : ¬ (k = 0 ∧ isTl P x) := fun q => absurd (k1.symm.trans q.1) (by decide)
            have c1 : k = 1 ∧ isSh x := ⟨k1, hx⟩
            refine ⟨_, rfl, by unfold sleR; rw [if_pos h4, if_neg c0, if_pos c1], sh3 X (ix v) _ _ _, rfl, sh3_x, ?_⟩
            unfold sleH
            rw [if_pos h4, if_neg c0, if_pos c1]
            unfold hldW
            obtain ⟨g1, -, cn, g2, g3, g4, -⟩ := rs _ (vp_lt (sh_in hx))
            first
              | exact absurd (h72.symm.trans k1) (by decide)
              | exact absurd (h96.symm.trans k1) (by decide)
              | (by_cases hm : W (2 * ix x) 0 = -1
                 · rw [if_pos hm] at z1 ⊢
                   first
                     | exact absurd z1 h81
                     | exact absurd z1 h105
                     | exact absurd z1 h126
                     | exact rh.set sh3_o ⟨sh3_0, Or.inl rfl, fun q => absurd q (show ¬ (0 : Int32) = 1 by decide), fun q => absurd q (show ¬ (0 : Int32) = 2 by decide)⟩
                 · rw [if_neg hm] at z1 ⊢
                   first
                     | exact absurd (h81.symm.trans z1) (by decide)
                     | exact absurd (h105.symm.trans z1) (by decide)
                     | exact absurd (h126.symm.trans z1) (by decide)
                     | exact rh.set sh3_o ⟨sh3_0, Or.inr (Or.inr rfl), fun q => absurd q (show ¬ (2 : Int32) = 1 by decide), fun _ => ⟨sh3_1.trans g1, sh3_2.trans (g4.trans g3.symm)⟩⟩)
        · refine a_aload_n C0 0 dX6_shelf_129 rfl rfl ?_
          refine g_X6_31 C0 (lt_b rfl) rfl rfl dX6_shelf_130 ?_
          refine a_iload_n C0 3 dX6_shelf_133 rfl rfl ?_
          refine a_iald C0 _ (lt_b rfl) rfl (hxz h126) rfl dX6_shelf_134 ?_
          refine a_goto C0 139 dX6_shelf_135 rfl ?_
          refine a_iast C0 _ (lt_b rfl) (fun _ => rfl) hv4 rfl dX6_shelf_139 ?_
          refine a_iconst C0 1 dX6_shelf_140 rfl ?_
          refine a_iret C0 hr dX6_shelf_141 ?_
          rw [mkM_X (by decide), mkM_X (by decide), mkM_X (by decide)]
          rcases hF with ⟨k0, ht, z0⟩ | ⟨k2, z0⟩ | ⟨k1, hx, z1⟩
          · have c0 : k = 0 ∧ isTl P x := ⟨k0, ht⟩
            refine ⟨_, rfl, by unfold sleR; rw [if_pos h4, if_pos c0], sh3 X (ix v) _ _ _, rfl, sh3_x, ?_⟩
            unfold sleH
            rw [if_pos h4, if_pos c0]
            first
              | exact absurd k0 h72
              | exact absurd k0 h96
              | exact rh.set sh3_o ⟨sh3_0, Or.inr (Or.inl rfl), fun _ => sh3_1, fun q => absurd q (show ¬ (1 : Int32) = 2 by decide)⟩
          · have c0 : ¬ (k = 0 ∧ isTl P x) := fun q => absurd (k2.symm.trans q.1) (by decide)
            have c1 : ¬ (k = 1 ∧ isSh x) := fun q => absurd (k2.symm.trans q.1) (by decide)
            refine ⟨_, rfl, by unfold sleR; rw [if_pos h4, if_neg c0, if_neg c1, if_pos k2], sh3 X (ix v) _ _ _, rfl, sh3_x, ?_⟩
            unfold sleH
            rw [if_pos h4, if_neg c0, if_neg c1, if_pos k2]
            first
              | exact absurd z0 h81
              | exact absurd z0 h105
              | exact absurd z0 h126
              | exact absurd (h72.symm.trans k2) (by decide)
              | exact absurd (h96.symm.trans k2) (by decide)
              | exact rh.set sh3_o ⟨sh3_0, Or.inl rfl, fun q => absurd q (show ¬ (0 : Int32) = 1 by decide), fun q => absurd q (show ¬ (0 : Int32) = 2 by decide)⟩
          · have c0 : ¬ (k = 0 ∧ isTl P x) := fun q => absurd (k1.symm.trans q.1) (by decide)
            have c1 : k = 1 ∧ isSh x := ⟨k1, hx⟩
            refine ⟨_, rfl, by unfold sleR; rw [if_pos h4, if_neg c0, if_pos c1], sh3 X (ix v) _ _ _, rfl, sh3_x, ?_⟩
            unfold sleH
            rw [if_pos h4, if_neg c0, if_pos c1]
            unfold hldW
            obtain ⟨g1, -, cn, g2, g3, g4, -⟩ := rs _ (vp_lt (sh_in hx))
            first
              | exact absurd (h72.symm.trans k1) (by decide)
              | exact absurd (h96.symm.trans k1) (by decide)
              | (by_cases hm : W (2 * ix x) 0 = -1
                 · rw [if_pos hm] at z1 ⊢
                   first
                     | exact absurd z1 h81
                     | exact absurd z1 h105
                     | exact absurd z1 h126
                     | exact rh.set sh3_o ⟨sh3_0, Or.inl rfl, fun q => absurd q (show ¬ (0 : Int32) = 1 by decide), fun q => absurd q (show ¬ (0 : Int32) = 2 by decide)⟩
                 · rw [if_neg hm] at z1 ⊢
                   first
                     | exact absurd (h81.symm.trans z1) (by decide)
                     | exact absurd (h105.symm.trans z1) (by decide)
                     | exact absurd (h126.symm.trans z1) (by decide)
                     | exact rh.set sh3_o ⟨sh3_0, Or.inr (Or.inr rfl), fun q => absurd q (show ¬ (2 : Int32) = 1 by decide), fun _ => ⟨sh3_1.trans g1, sh3_2.trans (g4.trans g3.symm)⟩⟩)
  refine a_iload_n C0 1 dX6_shelf_0 rfl rfl ?_
  refine a_callS _ 1 C0 EM.z (c_X6_isShelf l G) u_c_X6_isShelf u_m_X6_284 u_st_X6_isShelf u_in_X6 hy_X6_isShelf.2 (hRk rfl) rfl rfl (le_b rfl) dX6_shelf_1 (k_ro EM.z ?_)
  refine a_if_eqb C0 43 dX6_shelf_4 rfl (fun h4 => ?_) (fun h4 => ?_)
  · refine a_iconst C0 (-1) dX6_shelf_43 rfl ?_
    refine a_iret C0 hr dX6_shelf_44 ?_
    have no : sleR P v k x = -1 ∧ sleH P W H v k x = H := by
      unfold sleR sleH
      first
        | exact ⟨if_neg h4, if_neg h4⟩
        | (have n2 : ¬ k = 2 := fun q => by
             first
               | exact h16 (by rw [q]; decide)
               | exact absurd (h20.symm.trans q) (by decide)
               | exact absurd (h33.symm.trans q) (by decide)
           have n0 : ¬ (k = 0 ∧ isTl P x) := fun q => by
             first
               | exact h16 (by rw [q.1]; decide)
               | exact h28 q.2
               | exact h20 q.1
               | exact absurd (h33.symm.trans q.1) (by decide)
           have n1 : ¬ (k = 1 ∧ isSh x) := fun q => by
             first
               | exact h16 (by rw [q.1]; decide)
               | exact absurd (h20.symm.trans q.1) (by decide)
               | exact h40 q.2
           rw [if_pos h4, if_pos h4, if_neg n0, if_neg n0, if_neg n1, if_neg n1, if_neg n2, if_neg n2]
           exact ⟨rfl, rfl⟩)
    exact ⟨_, rfl, no.1.symm, _, rfl, fun _ _ _ _ => rfl, by rw [no.2]; exact rh⟩
  · refine a_iload_n C0 2 dX6_shelf_7 rfl rfl ?_
    refine a_i2l C0 dX6_shelf_8 ?_
    refine a_lconst C0 0 dX6_shelf_9 rfl ?_
    refine a_ldc2 C0 dX6_shelf_10 u_k_X6_185 ?_
    refine a_callS _ 3 C0 EM.z (c_X6_isIn l G (w2 := 0) (w3 := 2) rfl rfl rfl) u_c_X6_isIn u_m_X6_54 u_st_X6_isIn u_in_X6 hy_X6_isIn.2 (hRk rfl) rfl rfl (le_b rfl) dX6_shelf_13 (k_ro EM.z ?_)
    refine a_if_eqb C0 43 dX6_shelf_16 rfl (fun h16 => ?_) (fun h16 => ?_)
    · refine a_iconst C0 (-1) dX6_shelf_43 rfl ?_
      refine a_iret C0 hr dX6_shelf_44 ?_
      have no : sleR P v k x = -1 ∧ sleH P W H v k x = H := by
        unfold sleR sleH
        first
          | exact ⟨if_neg h4, if_neg h4⟩
          | (have n2 : ¬ k = 2 := fun q => by
               first
                 | exact h16 (by rw [q]; decide)
                 | exact absurd (h20.symm.trans q) (by decide)
                 | exact absurd (h33.symm.trans q) (by decide)
             have n0 : ¬ (k = 0 ∧ isTl P x) := fun q => by
               first
                 | exact h16 (by rw [q.1]; decide)
                 | exact h28 q.2
                 | exact h20 q.1
                 | exact absurd (h33.symm.trans q.1) (by decide)
             have n1 : ¬ (k = 1 ∧ isSh x) := fun q => by
               first
                 | exact h16 (by rw [q.1]; decide)
                 | exact absurd (h20.symm.trans q.1) (by decide)
                 | exact h40 q.2
             rw [if_pos h4, if_pos h4, if_neg n0, if_neg n0, if_neg n1, if_neg n1, if_neg n2, if_neg n2]
             exact ⟨rfl, rfl⟩)
      exact ⟨_, rfl, no.1.symm, _, rfl, fun _ _ _ _ => rfl, by rw [no.2]; exact rh⟩
    · refine a_iload_n C0 2 dX6_shelf_19 rfl rfl ?_
      refine a_if_ne C0 31 dX6_shelf_20 rfl (fun h20 => ?_) (fun h20 => ?_)
      · refine a_iload_n C0 2 dX6_shelf_31 rfl rfl ?_
        refine a_iconst C0 1 dX6_shelf_32 rfl ?_
        refine a_icmp_ne C0 45 dX6_shelf_33 rfl (fun h33 => ?_) (fun h33 => ?_)
        · refine a_iload_n C0 2 dX6_shelf_45 rfl rfl ?_
          refine a_iconst C0 1 dX6_shelf_46 rfl ?_
          refine a_icmp_ne C0 63 dX6_shelf_47 rfl (fun h47 => ?_) (fun h47 => ?_)
          · refine a_iconst C0 0 dX6_shelf_63 rfl ?_
            refine a_istore (ls2 := [(4, _), (0, _), (1, _), (2, _), (3, _)]) C0 dX6_shelf_64 (lt_b rfl) rfl ?_
            refine AW.sub (ls2 := [(0, _), (1, _), (2, _), (3, _), (4, _)]) [1, 2, 3, 4, 0] rfl ?_
            refine fin _ h4 ?_
            first
              | exact absurd (h47.symm.trans h20) (by decide)
              | exact absurd h47 h33
              | exact absurd h33 h47
              | exact Or.inl ⟨h20, h28, rfl⟩
              | (refine Or.inr (Or.inr ⟨h47, h40, ?_⟩)
                 have hxm := rs.mis (vp_lt (sh_in h40))
                 first
                   | exact (if_pos (hxm.mp h56)).symm
                   | exact (if_neg fun q => h56 (hxm.mpr q)).symm)
              | (refine Or.inr (Or.inl ⟨?_, rfl⟩)
                 obtain ⟨j, hj2, rfl⟩ := vp_in_of (in_of (n := 2) (by decide) h16) (by decide)
                 match j, hj2 with
                 | 0, _ => exact absurd rfl h20
                 | 1, _ =>
                   first
                     | exact absurd rfl h33
                     | exact absurd rfl h47
                 | 2, _ => rfl)
          · refine a_aload_n C0 0 dX6_shelf_50 rfl rfl ?_
            refine g_X6_28 C0 (lt_b rfl) rfl rfl dX6_shelf_51 ?_
            refine a_iload_n C0 3 dX6_shelf_54 rfl rfl ?_
            refine a_iald C0 _ (lt_b rfl) rfl (by first | exact sh_in h40 | exact absurd h47 h33 | exact absurd (h47.symm.trans h20) (by decide)) rfl dX6_shelf_55 ?_
            refine a_if_lt C0 63 dX6_shelf_56 rfl (fun h56 => ?_) (fun h56 => ?_)
            · refine a_iconst C0 0 dX6_shelf_63 rfl ?_
              refine a_istore (ls2 := [(4, _), (0, _), (1, _), (2, _), (3, _)]) C0 dX6_shelf_64 (lt_b rfl) rfl ?_
              refine AW.sub (ls2 := [(0, _), (1, _), (2, _), (3, _), (4, _)]) [1, 2, 3, 4, 0] rfl ?_
              refine fin _ h4 ?_
              first
                | exact absurd (h47.symm.trans h20) (by decide)
                | exact absurd h47 h33
                | exact absurd h33 h47
                | exact Or.inl ⟨h20, h28, rfl⟩
                | (refine Or.inr (Or.inr ⟨h47, h40, ?_⟩)
                   have hxm := rs.mis (vp_lt (sh_in h40))
                   first
                     | exact (if_pos (hxm.mp h56)).symm
                     | exact (if_neg fun q => h56 (hxm.mpr q)).symm)
                | (refine Or.inr (Or.inl ⟨?_, rfl⟩)
                   obtain ⟨j, hj2, rfl⟩ := vp_in_of (in_of (n := 2) (by decide) h16) (by decide)
                   match j, hj2 with
                   | 0, _ => exact absurd rfl h20
                   | 1, _ =>
                     first
                       | exact absurd rfl h33
                       | exact absurd rfl h47
                   | 2, _ => rfl)
            · refine a_iconst C0 1 dX6_shelf_59 rfl ?_
              refine a_goto C0 64 dX6_shelf_60 rfl ?_
              refine a_istore (ls2 := [(4, _), (0, _), (1, _), (2, _), (3, _)]) C0 dX6_shelf_64 (lt_b rfl) rfl ?_
              refine AW.sub (ls2 := [(0, _), (1, _), (2, _), (3, _), (4, _)]) [1, 2, 3, 4, 0] rfl ?_
              refine fin _ h4 ?_
              first
                | exact absurd (h47.symm.trans h20) (by decide)
                | exact absurd h47 h33
                | exact absurd h33 h47
                | exact Or.inl ⟨h20, h28, rfl⟩
                | (refine Or.inr (Or.inr ⟨h47, h40, ?_⟩)
                   have hxm := rs.mis (vp_lt (sh_in h40))
                   first
                     | exact (if_pos (hxm.mp h56)).symm
                     | exact (if_neg fun q => h56 (hxm.mpr q)).symm)
                | (refine Or.inr (Or.inl ⟨?_, rfl⟩)
                   obtain ⟨j, hj2, rfl⟩ := vp_in_of (in_of (n := 2) (by decide) h16) (by decide)
                   match j, hj2 with
                   | 0, _ => exact absurd rfl h20
                   | 1, _ =>
                     first
                       | exact absurd rfl h33
                       | exact absurd rfl h47
                   | 2, _ => rfl)
        · refine a_iload_n C0 3 dX6_shelf_36 rfl rfl ?_
          refine a_callS _ 1 C0 EM.z (c_X6_isSheet l G) u_c_X6_isSheet u_m_X6_258 u_st_X6_isSheet u_in_X6 hy_X6_isSheet.2 (hRk rfl) rfl rfl (le_b rfl) dX6_shelf_37 (k_ro EM.z ?_)
          refine a_if_neb C0 45 dX6_shelf_40 rfl (fun h40 => ?_) (fun h40 => ?_)
          · refine a_iload_n C0 2 dX6_shelf_45 rfl rfl ?_
            refine a_iconst C0 1 dX6_shelf_46 rfl ?_
            refine a_icmp_ne C0 63 dX6_shelf_47 rfl (fun h47 => ?_) (fun h47 => ?_)
            · refine a_iconst C0 0 dX6_shelf_63 rfl ?_
              refine a_istore (ls2 := [(4, _), (0, _), (1, _), (2, _), (3, _)]) C0 dX6_shelf_64 (lt_b rfl) rfl ?_
              refine AW.sub (ls2 := [(0, _), (1, _), (2, _), (3, _), (4, _)]) [1, 2, 3, 4, 0] rfl ?_
              refine fin _ h4 ?_
              first
                | exact absurd (h47.symm.trans h20) (by decide)
                | exact absurd h47 h33
                | exact absurd h33 h47
                | exact Or.inl ⟨h20, h28, rfl⟩
                | (refine Or.inr (Or.inr ⟨h47, h40, ?_⟩)
                   have hxm := rs.mis (vp_lt (sh_in h40))
                   first
                     | exact (if_pos (hxm.mp h56)).symm
                     | exact (if_neg fun q => h56 (hxm.mpr q)).symm)
                | (refine Or.inr (Or.inl ⟨?_, rfl⟩)
                   obtain ⟨j, hj2, rfl⟩ := vp_in_of (in_of (n := 2) (by decide) h16) (by decide)
                   match j, hj2 with
                   | 0, _ => exact absurd rfl h20
                   | 1, _ =>
                     first
                       | exact absurd rfl h33
                       | exact absurd rfl h47
                   | 2, _ => rfl)
            · refine a_aload_n C0 0 dX6_shelf_50 rfl rfl ?_
              refine g_X6_28 C0 (lt_b rfl) rfl rfl dX6_shelf_51 ?_
              refine a_iload_n C0 3 dX6_shelf_54 rfl rfl ?_
              refine a_iald C0 _ (lt_b rfl) rfl (by first | exact sh_in h40 | exact absurd h47 h33 | exact absurd (h47.symm.trans h20) (by decide)) rfl dX6_shelf_55 ?_
              refine a_if_lt C0 63 dX6_shelf_56 rfl (fun h56 => ?_) (fun h56 => ?_)
              · refine a_iconst C0 0 dX6_shelf_63 rfl ?_
                refine a_istore (ls2 := [(4, _), (0, _), (1, _), (2, _), (3, _)]) C0 dX6_shelf_64 (lt_b rfl) rfl ?_
                refine AW.sub (ls2 := [(0, _), (1, _), (2, _), (3, _), (4, _)]) [1, 2, 3, 4, 0] rfl ?_
                refine fin _ h4 ?_
                first
                  | exact absurd (h47.symm.trans h20) (by decide)
                  | exact absurd h47 h33
                  | exact absurd h33 h47
                  | exact Or.inl ⟨h20, h28, rfl⟩
                  | (refine Or.inr (Or.inr ⟨h47, h40, ?_⟩)
                     have hxm := rs.mis (vp_lt (sh_in h40))
                     first
                       | exact (if_pos (hxm.mp h56)).symm
                       | exact (if_neg fun q => h56 (hxm.mpr q)).symm)
                  | (refine Or.inr (Or.inl ⟨?_, rfl⟩)
                     obtain ⟨j, hj2, rfl⟩ := vp_in_of (in_of (n := 2) (by decide) h16) (by decide)
                     match j, hj2 with
                     | 0, _ => exact absurd rfl h20
                     | 1, _ =>
                       first
                         | exact absurd rfl h33
                         | exact absurd rfl h47
                     | 2, _ => rfl)
              · refine a_iconst C0 1 dX6_shelf_59 rfl ?_
                refine a_goto C0 64 dX6_shelf_60 rfl ?_
                refine a_istore (ls2 := [(4, _), (0, _), (1, _), (2, _), (3, _)]) C0 dX6_shelf_64 (lt_b rfl) rfl ?_
                refine AW.sub (ls2 := [(0, _), (1, _), (2, _), (3, _), (4, _)]) [1, 2, 3, 4, 0] rfl ?_
                refine fin _ h4 ?_
                first
                  | exact absurd (h47.symm.trans h20) (by decide)
                  | exact absurd h47 h33
                  | exact absurd h33 h47
                  | exact Or.inl ⟨h20, h28, rfl⟩
                  | (refine Or.inr (Or.inr ⟨h47, h40, ?_⟩)
                     have hxm := rs.mis (vp_lt (sh_in h40))
                     first
                       | exact (if_pos (hxm.mp h56)).symm
                       | exact (if_neg fun q => h56 (hxm.mpr q)).symm)
                  | (refine Or.inr (Or.inl ⟨?_, rfl⟩)
                     obtain ⟨j, hj2, rfl⟩ := vp_in_of (in_of (n := 2) (by decide) h16) (by decide)
                     match j, hj2 with
                     | 0, _ => exact absurd rfl h20
                     | 1, _ =>
                       first
                         | exact absurd rfl h33
                         | exact absurd rfl h47
                     | 2, _ => rfl)
          · refine a_iconst C0 (-1) dX6_shelf_43 rfl ?_
            refine a_iret C0 hr dX6_shelf_44 ?_
            have no : sleR P v k x = -1 ∧ sleH P W H v k x = H := by
              unfold sleR sleH
              first
                | exact ⟨if_neg h4, if_neg h4⟩
                | (have n2 : ¬ k = 2 := fun q => by
                     first
                       | exact h16 (by rw [q]; decide)
                       | exact absurd (h20.symm.trans q) (by decide)
                       | exact absurd (h33.symm.trans q) (by decide)
                   have n0 : ¬ (k = 0 ∧ isTl P x) := fun q => by
                     first
                       | exact h16 (by rw [q.1]; decide)
                       | exact h28 q.2
                       | exact h20 q.1
                       | exact absurd (h33.symm.trans q.1) (by decide)
                   have n1 : ¬ (k = 1 ∧ isSh x) := fun q => by
                     first
                       | exact h16 (by rw [q.1]; decide)
                       | exact absurd (h20.symm.trans q.1) (by decide)
                       | exact h40 q.2
                   rw [if_pos h4, if_pos h4, if_neg n0, if_neg n0, if_neg n1, if_neg n1, if_neg n2, if_neg n2]
                   exact ⟨rfl, rfl⟩)
            exact ⟨_, rfl, no.1.symm, _, rfl, fun _ _ _ _ => rfl, by rw [no.2]; exact rh⟩
      · refine a_aload_n C0 0 dX6_shelf_23 rfl rfl ?_
        refine a_iload_n C0 3 dX6_shelf_24 rfl rfl ?_
        refine a_callV _ 1 C0 EM.refl (c_X6_isOne l G rp  rfl) u_c_X6_isOne u_m_X6_173 u_im_X6_isOne u_se_X6_isOne u_in_X6 hy_X6_isOne rfl (lt_b rfl) rfl (hRk rfl) rfl rfl (le_b rfl) dX6_shelf_25 (k_ro EM.refl ?_)
        refine a_if_eqb C0 43 dX6_shelf_28 rfl (fun h28 => ?_) (fun h28 => ?_)
        · refine a_iconst C0 (-1) dX6_shelf_43 rfl ?_
          refine a_iret C0 hr dX6_shelf_44 ?_
          have no : sleR P v k x = -1 ∧ sleH P W H v k x = H := by
            unfold sleR sleH
            first
              | exact ⟨if_neg h4, if_neg h4⟩
              | (have n2 : ¬ k = 2 := fun q => by
                   first
                     | exact h16 (by rw [q]; decide)
                     | exact absurd (h20.symm.trans q) (by decide)
                     | exact absurd (h33.symm.trans q) (by decide)
                 have n0 : ¬ (k = 0 ∧ isTl P x) := fun q => by
                   first
                     | exact h16 (by rw [q.1]; decide)
                     | exact h28 q.2
                     | exact h20 q.1
                     | exact absurd (h33.symm.trans q.1) (by decide)
                 have n1 : ¬ (k = 1 ∧ isSh x) := fun q => by
                   first
                     | exact h16 (by rw [q.1]; decide)
                     | exact absurd (h20.symm.trans q.1) (by decide)
                     | exact h40 q.2
                 rw [if_pos h4, if_pos h4, if_neg n0, if_neg n0, if_neg n1, if_neg n1, if_neg n2, if_neg n2]
                 exact ⟨rfl, rfl⟩)
          exact ⟨_, rfl, no.1.symm, _, rfl, fun _ _ _ _ => rfl, by rw [no.2]; exact rh⟩
        · refine a_iload_n C0 2 dX6_shelf_31 rfl rfl ?_
          refine a_iconst C0 1 dX6_shelf_32 rfl ?_
          refine a_icmp_ne C0 45 dX6_shelf_33 rfl (fun h33 => ?_) (fun h33 => ?_)
          · refine a_iload_n C0 2 dX6_shelf_45 rfl rfl ?_
            refine a_iconst C0 1 dX6_shelf_46 rfl ?_
            refine a_icmp_ne C0 63 dX6_shelf_47 rfl (fun h47 => ?_) (fun h47 => ?_)
            · refine a_iconst C0 0 dX6_shelf_63 rfl ?_
              refine a_istore (ls2 := [(4, _), (0, _), (1, _), (2, _), (3, _)]) C0 dX6_shelf_64 (lt_b rfl) rfl ?_
              refine AW.sub (ls2 := [(0, _), (1, _), (2, _), (3, _), (4, _)]) [1, 2, 3, 4, 0] rfl ?_
              refine fin _ h4 ?_
              first
                | exact absurd (h47.symm.trans h20) (by decide)
                | exact absurd h47 h33
                | exact absurd h33 h47
                | exact Or.inl ⟨h20, h28, rfl⟩
                | (refine Or.inr (Or.inr ⟨h47, h40, ?_⟩)
                   have hxm := rs.mis (vp_lt (sh_in h40))
                   first
                     | exact (if_pos (hxm.mp h56)).symm
                     | exact (if_neg fun q => h56 (hxm.mpr q)).symm)
                | (refine Or.inr (Or.inl ⟨?_, rfl⟩)
                   obtain ⟨j, hj2, rfl⟩ := vp_in_of (in_of (n := 2) (by decide) h16) (by decide)
                   match j, hj2 with
                   | 0, _ => exact absurd rfl h20
                   | 1, _ =>
                     first
                       | exact absurd rfl h33
                       | exact absurd rfl h47
                   | 2, _ => rfl)
            · refine a_aload_n C0 0 dX6_shelf_50 rfl rfl ?_
              refine g_X6_28 C0 (lt_b rfl) rfl rfl dX6_shelf_51 ?_
              refine a_iload_n C0 3 dX6_shelf_54 rfl rfl ?_
              refine a_iald C0 _ (lt_b rfl) rfl (by first | exact sh_in h40 | exact absurd h47 h33 | exact absurd (h47.symm.trans h20) (by decide)) rfl dX6_shelf_55 ?_
              refine a_if_lt C0 63 dX6_shelf_56 rfl (fun h56 => ?_) (fun h56 => ?_)
              · refine a_iconst C0 0 dX6_shelf_63 rfl ?_
                refine a_istore (ls2 := [(4, _), (0, _), (1, _), (2, _), (3, _)]) C0 dX6_shelf_64 (lt_b rfl) rfl ?_
                refine AW.sub (ls2 := [(0, _), (1, _), (2, _), (3, _), (4, _)]) [1, 2, 3, 4, 0] rfl ?_
                refine fin _ h4 ?_
                first
                  | exact absurd (h47.symm.trans h20) (by decide)
                  | exact absurd h47 h33
                  | exact absurd h33 h47
                  | exact Or.inl ⟨h20, h28, rfl⟩
                  | (refine Or.inr (Or.inr ⟨h47, h40, ?_⟩)
                     have hxm := rs.mis (vp_lt (sh_in h40))
                     first
                       | exact (if_pos (hxm.mp h56)).symm
                       | exact (if_neg fun q => h56 (hxm.mpr q)).symm)
                  | (refine Or.inr (Or.inl ⟨?_, rfl⟩)
                     obtain ⟨j, hj2, rfl⟩ := vp_in_of (in_of (n := 2) (by decide) h16) (by decide)
                     match j, hj2 with
                     | 0, _ => exact absurd rfl h20
                     | 1, _ =>
                       first
                         | exact absurd rfl h33
                         | exact absurd rfl h47
                     | 2, _ => rfl)
              · refine a_iconst C0 1 dX6_shelf_59 rfl ?_
                refine a_goto C0 64 dX6_shelf_60 rfl ?_
                refine a_istore (ls2 := [(4, _), (0, _), (1, _), (2, _), (3, _)]) C0 dX6_shelf_64 (lt_b rfl) rfl ?_
                refine AW.sub (ls2 := [(0, _), (1, _), (2, _), (3, _), (4, _)]) [1, 2, 3, 4, 0] rfl ?_
                refine fin _ h4 ?_
                first
                  | exact absurd (h47.symm.trans h20) (by decide)
                  | exact absurd h47 h33
                  | exact absurd h33 h47
                  | exact Or.inl ⟨h20, h28, rfl⟩
                  | (refine Or.inr (Or.inr ⟨h47, h40, ?_⟩)
                     have hxm := rs.mis (vp_lt (sh_in h40))
                     first
                       | exact (if_pos (hxm.mp h56)).symm
                       | exact (if_neg fun q => h56 (hxm.mpr q)).symm)
                  | (refine Or.inr (Or.inl ⟨?_, rfl⟩)
                     obtain ⟨j, hj2, rfl⟩ := vp_in_of (in_of (n := 2) (by decide) h16) (by decide)
                     match j, hj2 with
                     | 0, _ => exact absurd rfl h20
                     | 1, _ =>
                       first
                         | exact absurd rfl h33
                         | exact absurd rfl h47
                     | 2, _ => rfl)
          · refine a_iload_n C0 3 dX6_shelf_36 rfl rfl ?_
            refine a_callS _ 1 C0 EM.z (c_X6_isSheet l G) u_c_X6_isSheet u_m_X6_258 u_st_X6_isSheet u_in_X6 hy_X6_isSheet.2 (hRk rfl) rfl rfl (le_b rfl) dX6_shelf_37 (k_ro EM.z ?_)
            refine a_if_neb C0 45 dX6_shelf_40 rfl (fun h40 => ?_) (fun h40 => ?_)
            · refine a_iload_n C0 2 dX6_shelf_45 rfl rfl ?_
              refine a_iconst C0 1 dX6_shelf_46 rfl ?_
              refine a_icmp_ne C0 63 dX6_shelf_47 rfl (fun h47 => ?_) (fun h47 => ?_)
              · refine a_iconst C0 0 dX6_shelf_63 rfl ?_
                refine a_istore (ls2 := [(4, _), (0, _), (1, _), (2, _), (3, _)]) C0 dX6_shelf_64 (lt_b rfl) rfl ?_
                refine AW.sub (ls2 := [(0, _), (1, _), (2, _), (3, _), (4, _)]) [1, 2, 3, 4, 0] rfl ?_
                refine fin _ h4 ?_
                first
                  | exact absurd (h47.symm.trans h20) (by decide)
                  | exact absurd h47 h33
                  | exact absurd h33 h47
                  | exact Or.inl ⟨h20, h28, rfl⟩
                  | (refine Or.inr (Or.inr ⟨h47, h40, ?_⟩)
                     have hxm := rs.mis (vp_lt (sh_in h40))
                     first
                       | exact (if_pos (hxm.mp h56)).symm
                       | exact (if_neg fun q => h56 (hxm.mpr q)).symm)
                  | (refine Or.inr (Or.inl ⟨?_, rfl⟩)
                     obtain ⟨j, hj2, rfl⟩ := vp_in_of (in_of (n := 2) (by decide) h16) (by decide)
                     match j, hj2 with
                     | 0, _ => exact absurd rfl h20
                     | 1, _ =>
                       first
                         | exact absurd rfl h33
                         | exact absurd rfl h47
                     | 2, _ => rfl)
              · refine a_aload_n C0 0 dX6_shelf_50 rfl rfl ?_
                refine g_X6_28 C0 (lt_b rfl) rfl rfl dX6_shelf_51 ?_
                refine a_iload_n C0 3 dX6_shelf_54 rfl rfl ?_
                refine a_iald C0 _ (lt_b rfl) rfl (by first | exact sh_in h40 | exact absurd h47 h33 | exact absurd (h47.symm.trans h20) (by decide)) rfl dX6_shelf_55 ?_
                refine a_if_lt C0 63 dX6_shelf_56 rfl (fun h56 => ?_) (fun h56 => ?_)
                · refine a_iconst C0 0 dX6_shelf_63 rfl ?_
                  refine a_istore (ls2 := [(4, _), (0, _), (1, _), (2, _), (3, _)]) C0 dX6_shelf_64 (lt_b rfl) rfl ?_
                  refine AW.sub (ls2 := [(0, _), (1, _), (2, _), (3, _), (4, _)]) [1, 2, 3, 4, 0] rfl ?_
                  refine fin _ h4 ?_
                  first
                    | exact absurd (h47.symm.trans h20) (by decide)
                    | exact absurd h47 h33
                    | exact absurd h33 h47
                    | exact Or.inl ⟨h20, h28, rfl⟩
                    | (refine Or.inr (Or.inr ⟨h47, h40, ?_⟩)
                       have hxm := rs.mis (vp_lt (sh_in h40))
                       first
                         | exact (if_pos (hxm.mp h56)).symm
                         | exact (if_neg fun q => h56 (hxm.mpr q)).symm)
                    | (refine Or.inr (Or.inl ⟨?_, rfl⟩)
                       obtain ⟨j, hj2, rfl⟩ := vp_in_of (in_of (n := 2) (by decide) h16) (by decide)
                       match j, hj2 with
                       | 0, _ => exact absurd rfl h20
                       | 1, _ =>
                         first
                           | exact absurd rfl h33
                           | exact absurd rfl h47
                       | 2, _ => rfl)
                · refine a_iconst C0 1 dX6_shelf_59 rfl ?_
                  refine a_goto C0 64 dX6_shelf_60 rfl ?_
                  refine a_istore (ls2 := [(4, _), (0, _), (1, _), (2, _), (3, _)]) C0 dX6_shelf_64 (lt_b rfl) rfl ?_
                  refine AW.sub (ls2 := [(0, _), (1, _), (2, _), (3, _), (4, _)]) [1, 2, 3, 4, 0] rfl ?_
                  refine fin _ h4 ?_
                  first
                    | exact absurd (h47.symm.trans h20) (by decide)
                    | exact absurd h47 h33
                    | exact absurd h33 h47
                    | exact Or.inl ⟨h20, h28, rfl⟩
                    | (refine Or.inr (Or.inr ⟨h47, h40, ?_⟩)
                       have hxm := rs.mis (vp_lt (sh_in h40))
                       first
                         | exact (if_pos (hxm.mp h56)).symm
                         | exact (if_neg fun q => h56 (hxm.mpr q)).symm)
                    | (refine Or.inr (Or.inl ⟨?_, rfl⟩)
                       obtain ⟨j, hj2, rfl⟩ := vp_in_of (in_of (n := 2) (by decide) h16) (by decide)
                       match j, hj2 with
                       | 0, _ => exact absurd rfl h20
                       | 1, _ =>
                         first
                           | exact absurd rfl h33
                           | exact absurd rfl h47
                       | 2, _ => rfl)
            · refine a_iconst C0 (-1) dX6_shelf_43 rfl ?_
              refine a_iret C0 hr dX6_shelf_44 ?_
              have no : sleR P v k x = -1 ∧ sleH P W H v k x = H := by
                unfold sleR sleH
                first
                  | exact ⟨if_neg h4, if_neg h4⟩
                  | (have n2 : ¬ k = 2 := fun q => by
                       first
                         | exact h16 (by rw [q]; decide)
                         | exact absurd (h20.symm.trans q) (by decide)
                         | exact absurd (h33.symm.trans q) (by decide)
                     have n0 : ¬ (k = 0 ∧ isTl P x) := fun q => by
                       first
                         | exact h16 (by rw [q.1]; decide)
                         | exact h28 q.2
                         | exact h20 q.1
                         | exact absurd (h33.symm.trans q.1) (by decide)
                     have n1 : ¬ (k = 1 ∧ isSh x) := fun q => by
                       first
                         | exact h16 (by rw [q.1]; decide)
                         | exact absurd (h20.symm.trans q.1) (by decide)
                         | exact h40 q.2
                     rw [if_pos h4, if_pos h4, if_neg n0, if_neg n0, if_neg n1, if_neg n1, if_neg n2, if_neg n2]
                     exact ⟨rfl, rfl⟩)
              exact ⟨_, rfl, no.1.symm, _, rfl, fun _ _ _ _ => rfl, by rw [no.2]; exact rh⟩
set_option maxRecDepth 100000 in
set_option maxHeartbeats 4000000 in
theorem c_X6_heldOn (l : Launch) (G : GE) {ad : Nat → Nat} {M : WM} {O S : RW} {X : WM} {P : WM} {nT mm : Nat} (rp : RP P S nT mm) {v : Int32} {H : WM} (rh : RHe H X) (hv : vp_in v 4) (hM : M = mkM O S X)  : CT l G yX6_heldOn cX6_heldOn 2 (some .int) 1 [.ref (ad 0), .int v] 14 ad (shM G ad) M (PI (fun r u => r = (if hdT P H (ix v) then 1 else if H (ix v) 0 = 2 then 2 else 0) ∧ u = mkM O S X)) := by
  refine CT.of (own := RX6) rfl rfl (le_b rfl) fun p e s m args below meth c A C0 hr => ?_
  refine AW.lo (ls2 := [(0, _), (1, _)]) rfl ?_
  subst hM
  refine a_aload_n C0 0 dX6_heldOn_0 rfl rfl ?_
  refine g_X6_37 C0 (lt_b rfl) rfl rfl dX6_heldOn_1 ?_
  refine a_iload_n C0 1 dX6_heldOn_4 rfl rfl ?_
  refine a_iald C0 _ (lt_b rfl) rfl hv rfl dX6_heldOn_5 ?_
  refine a_iconst C0 1 dX6_heldOn_6 rfl ?_
  refine a_icmp_ne C0 27 dX6_heldOn_7 rfl (fun h7 => ?_) (fun h7 => ?_)
  · refine a_aload_n C0 0 dX6_heldOn_27 rfl rfl ?_
    refine g_X6_37 C0 (lt_b rfl) rfl rfl dX6_heldOn_28 ?_
    refine a_iload_n C0 1 dX6_heldOn_31 rfl rfl ?_
    refine a_iald C0 _ (lt_b rfl) rfl hv rfl dX6_heldOn_32 ?_
    refine a_iret C0 hr dX6_heldOn_33 ?_
    refine rt_ ?_
    obtain ⟨g0, g1, -⟩ := rh _ (vp_lt hv)
    have g0 : mkM O S X 10 (ix v) = H (ix v) 0 := g0
    first
      | (rw [if_neg fun q => h20 q.2, h1]
         rfl)
      | (rw [if_pos ⟨h1, h20⟩, g0, h1])
      | (have h1 : ¬ H (ix v) 0 = 1 := fun q => h7 (g0.trans q)
         rw [if_neg fun q => h1 q.1, g0]
         rcases g1 with q | q | q
         · rw [q]
           rfl
         · exact absurd q h1
         · rw [q]
           rfl)
  · have h1 : H (ix v) 0 = 1 := (rh _ (vp_lt hv)).1.symm.trans h7
    have e11 : mkM O S X 11 (ix v) = H (ix v) 1 := (rh _ (vp_lt hv)).2.2.1 h1
    refine a_aload_n C0 0 dX6_heldOn_10 rfl rfl ?_
    refine a_aload_n C0 0 dX6_heldOn_11 rfl rfl ?_
    refine g_X6_40 C0 (lt_b rfl) rfl rfl dX6_heldOn_12 ?_
    refine a_iload_n C0 1 dX6_heldOn_15 rfl rfl ?_
    refine a_iald C0 _ (lt_b rfl) rfl hv rfl dX6_heldOn_16 ?_
    rw [e11]
    refine a_callV _ 1 C0 EM.refl (c_X6_isOne l G rp  rfl) u_c_X6_isOne u_m_X6_173 u_im_X6_isOne u_se_X6_isOne u_in_X6 hy_X6_isOne rfl (lt_b rfl) rfl (hRk rfl) rfl rfl (le_b rfl) dX6_heldOn_17 (k_ro EM.refl ?_)
    refine a_if_neb C0 27 dX6_heldOn_20 rfl (fun h20 => ?_) (fun h20 => ?_)
    · refine a_aload_n C0 0 dX6_heldOn_27 rfl rfl ?_
      refine g_X6_37 C0 (lt_b rfl) rfl rfl dX6_heldOn_28 ?_
      refine a_iload_n C0 1 dX6_heldOn_31 rfl rfl ?_
      refine a_iald C0 _ (lt_b rfl) rfl hv rfl dX6_heldOn_32 ?_
      refine a_iret C0 hr dX6_heldOn_33 ?_
      refine rt_ ?_
      obtain ⟨g0, g1, -⟩ := rh _ (vp_lt hv)
      have g0 : mkM O S X 10 (ix v) = H (ix v) 0 := g0
      first
        | (rw [if_neg fun q => h20 q.2, h1]
           rfl)
        | (rw [if_pos ⟨h1, h20⟩, g0, h1])
        | (have h1 : ¬ H (ix v) 0 = 1 := fun q => h7 (g0.trans q)
           rw [if_neg fun q => h1 q.1, g0]
           rcases g1 with q | q | q
           · rw [q]
             rfl
           · exact absurd q h1
           · rw [q]
             rfl)
    · refine a_iconst C0 0 dX6_heldOn_23 rfl ?_
      refine a_goto C0 33 dX6_heldOn_24 rfl ?_
      refine a_iret C0 hr dX6_heldOn_33 ?_
      refine rt_ ?_
      obtain ⟨g0, g1, -⟩ := rh _ (vp_lt hv)
      have g0 : mkM O S X 10 (ix v) = H (ix v) 0 := g0
      first
        | (rw [if_neg fun q => h20 q.2, h1]
           rfl)
        | (rw [if_pos ⟨h1, h20⟩, g0, h1])
        | (have h1 : ¬ H (ix v) 0 = 1 := fun q => h7 (g0.trans q)
           rw [if_neg fun q => h1 q.1, g0]
           rcases g1 with q | q | q
           · rw [q]
             rfl
           · exact absurd q h1
           · rw [q]
             rfl)

theorem tk_c {y : Int32} (h : 0 ≤ y ∧ y ≤ 13) (h2 : ¬ (6 ≤ y ∧ y ≤ 9)) : (y < 10 ∧ (0 ≤ y ∧ y ≤ 5) ∧ ¬ (10 ≤ y ∧ y ≤ 13)) ∨ (¬ y < 10 ∧ (10 ≤ y ∧ y ≤ 13)) := by
  obtain ⟨j, hj, rfl⟩ := vp_in_of (in_of (n := 13) (by decide) h) (by decide)
  have : ∀ j, j < 14 → ¬ (6 ≤ nI j ∧ nI j ≤ 9) → (nI j < 10 ∧ (0 ≤ nI j ∧ nI j ≤ 5) ∧ ¬ (10 ≤ nI j ∧ nI j ≤ 13)) ∨ (¬ nI j < 10 ∧ (10 ≤ nI j ∧ nI j ≤ 13)) := by decide +kernel
  exact this j hj h2
theorem tk_n {y : Int32} (h : ¬ (0 ≤ y ∧ y ≤ 13) ∨ (6 ≤ y ∧ y ≤ 9)) : ¬ ((10 ≤ y ∧ y ≤ 13) ∨ (0 ≤ y ∧ y ≤ 5)) := by
  simp only [Int32.le_iff_toInt_le] at *
  have e0 : (0 : Int32).toInt = 0 := rfl
  have e5 : (5 : Int32).toInt = 5 := rfl
  have e6 : (6 : Int32).toInt = 6 := rfl
  have e9 : (9 : Int32).toInt = 9 := rfl
  have e10 : (10 : Int32).toInt = 10 := rfl
  have e13 : (13 : Int32).toInt = 13 := rfl
  rw [e0, e5, e10, e13]
  rw [e0, e13, e6, e9] at h
  omega

set_option maxRecDepth 100000 in
set_option maxHeartbeats 4000000 in
theorem c_X6_taken (l : Launch) (G : GE) {ad : Nat → Nat} {M : WM} {O S : RW} {X : WM} {P : WM} {nT mm : Nat} (rp : RP P S nT mm) {v y : Int32} {H : WM} (rh : RHe H X) (hM : M = mkM O S X)  : CT l G yX6_taken cX6_taken 4 (some .int) 2 [.ref (ad 0), .int v, .int y] 14 ad (shM G ad) M (PI (fun r u => r = takR P H v y ∧ u = mkM O S X)) := by
  refine CT.of (own := RX6) rfl rfl (le_b rfl) fun p e s m args below meth c A C0 hr => ?_
  refine AW.lo (ls2 := [(0, _), (1, _), (2, _)]) rfl ?_
  subst hM
  refine a_iload_n C0 1 dX6_taken_0 rfl rfl ?_
  refine a_callS _ 1 C0 EM.z (c_X6_isShelf l G) u_c_X6_isShelf u_m_X6_284 u_st_X6_isShelf u_in_X6 hy_X6_isShelf.2 (hRk rfl) rfl rfl (le_b rfl) dX6_taken_1 (k_ro EM.z ?_)
  refine a_if_eqb C0 33 dX6_taken_4 rfl (fun h4 => ?_) (fun h4 => ?_)
  · refine a_iconst C0 (-1) dX6_taken_33 rfl ?_
    refine a_iret C0 hr dX6_taken_34 ?_
    have hc : ¬ (isSh v ∧ ((10 ≤ y ∧ y ≤ 13) ∨ (0 ≤ y ∧ y ≤ 5))) := fun q => by
      first
        | exact h4 q.1
        | exact tk_n (Or.inl h16) q.2
        | exact tk_n (Or.inr h30) q.2
    exact rt_ (by unfold takR; rw [if_neg hc])
  · refine a_iload_n C0 2 dX6_taken_7 rfl rfl ?_
    refine a_i2l C0 dX6_taken_8 ?_
    refine a_lconst C0 0 dX6_taken_9 rfl ?_
    refine a_ldc2 C0 dX6_taken_10 u_k_X6_287 ?_
    refine a_callS _ 3 C0 EM.z (c_X6_isIn l G (w2 := 0) (w3 := 13) rfl rfl rfl) u_c_X6_isIn u_m_X6_54 u_st_X6_isIn u_in_X6 hy_X6_isIn.2 (hRk rfl) rfl rfl (le_b rfl) dX6_taken_13 (k_ro EM.z ?_)
    refine a_if_eqb C0 33 dX6_taken_16 rfl (fun h16 => ?_) (fun h16 => ?_)
    · refine a_iconst C0 (-1) dX6_taken_33 rfl ?_
      refine a_iret C0 hr dX6_taken_34 ?_
      have hc : ¬ (isSh v ∧ ((10 ≤ y ∧ y ≤ 13) ∨ (0 ≤ y ∧ y ≤ 5))) := fun q => by
        first
          | exact h4 q.1
          | exact tk_n (Or.inl h16) q.2
          | exact tk_n (Or.inr h30) q.2
      exact rt_ (by unfold takR; rw [if_neg hc])
    · refine a_iload_n C0 2 dX6_taken_19 rfl rfl ?_
      refine a_i2l C0 dX6_taken_20 ?_
      refine a_ldc2 C0 dX6_taken_21 u_k_X6_289 ?_
      refine a_ldc2 C0 dX6_taken_24 u_k_X6_291 ?_
      refine a_callS _ 3 C0 EM.z (c_X6_isIn l G (w2 := 6) (w3 := 9) rfl rfl rfl) u_c_X6_isIn u_m_X6_54 u_st_X6_isIn u_in_X6 hy_X6_isIn.2 (hRk rfl) rfl rfl (le_b rfl) dX6_taken_27 (k_ro EM.z ?_)
      refine a_if_eqb C0 35 dX6_taken_30 rfl (fun h30 => ?_) (fun h30 => ?_)
      · have hv4 := sh_in h4
        have hj := vp_lt hv4
        have hk := tk_c h16 h30
        have hc : isSh v ∧ ((10 ≤ y ∧ y ≤ 13) ∨ (0 ≤ y ∧ y ≤ 5)) := ⟨h4, by
          rcases hk with q | q
          · exact Or.inr q.2.1
          · exact Or.inl q.2⟩
        obtain ⟨g0, g1, g2, g3⟩ := rh _ hj
        refine a_aload_n C0 0 dX6_taken_35 rfl rfl ?_
        refine a_iload_n C0 1 dX6_taken_36 rfl rfl ?_
        refine a_callV _ 1 C0 EM.refl (c_X6_heldOn l G rp rh hv4 rfl) u_c_X6_heldOn u_m_X6_293 u_im_X6_heldOn u_se_X6_heldOn u_in_X6 hy_X6_heldOn rfl (lt_b rfl) rfl (hRk rfl) rfl rfl (le_b rfl) dX6_taken_37 (k_ro EM.refl ?_)
        refine a_istore_n (ls2 := [(3, _), (0, _), (1, _), (2, _)]) C0 dX6_taken_40 rfl (lt_b rfl) rfl ?_
        refine a_iload_n C0 0 dX6_taken_41 rfl rfl ?_
        refine a_if_ne C0 48 dX6_taken_42 rfl (fun h42 => ?_) (fun h42 => ?_)
        · refine a_iload_n C0 3 dX6_taken_48 rfl rfl ?_
          refine a_bipush C0 10 dX6_taken_49 rfl ?_
          refine a_icmp_ge C0 89 dX6_taken_51 rfl (fun h51 => ?_) (fun h51 => ?_)
          · refine a_iload_n C0 0 dX6_taken_89 rfl rfl ?_
            refine a_iconst C0 2 dX6_taken_90 rfl ?_
            refine a_icmp_ne C0 116 dX6_taken_91 rfl (fun h91 => ?_) (fun h91 => ?_)
            · refine a_bipush C0 (-13) dX6_taken_116 rfl ?_
              refine a_iret C0 hr dX6_taken_118 ?_
              have hq := hk.resolve_left fun q => absurd q.1 (Int32.not_lt.mpr h51)
              refine rt_ ?_
              unfold takR
              rw [if_pos hc]
              first
                | (rw [if_pos h2]
                   rw [e11] at h104
                   first
                     | (rw [if_pos ⟨hq.2, h104⟩]
                        exact e12)
                     | rw [if_neg fun q => h104 q.2])
                | (have n2 : ¬ H (ix v) 0 = 2 := fun q => h91 (by
                     have n1 : ¬ hdT P H (ix v) := fun z => absurd (z.1.symm.trans q) (by decide)
                     rw [if_neg n1, if_pos q])
                   have hd : hdT P H (ix v) := by
                     by_cases q : hdT P H (ix v)
                     · exact q
                     · exact absurd ((if_neg q).trans (if_neg n2)) h42
                   rw [if_neg n2, if_pos hd, if_neg fun q => q.1 hq.2])
            · have h2 : H (ix v) 0 = 2 := by
                by_cases q : hdT P H (ix v)
                · rw [if_pos q] at h91
                  exact absurd h91 (by decide)
                · rw [if_neg q] at h91
                  by_cases q2 : H (ix v) 0 = 2
                  · exact q2
                  · rw [if_neg q2] at h91
                    exact absurd h91 (by decide)
              have hq := hk.resolve_left fun q => absurd q.1 (Int32.not_lt.mpr h51)
              have e11 : mkM O S X 11 (ix v) = H (ix v) 2 := (g3 h2).1
              have e12 : mkM O S X 12 (ix v) = H (ix v) 1 := (g3 h2).2
              refine a_aload_n C0 1 dX6_taken_94 rfl rfl ?_
              refine g_X6_40 C0 (lt_b rfl) rfl rfl dX6_taken_95 ?_
              refine a_iload_n C0 2 dX6_taken_98 rfl rfl ?_
              refine a_iald C0 _ (lt_b rfl) rfl hv4 rfl dX6_taken_99 ?_
              refine a_iload_n C0 3 dX6_taken_100 rfl rfl ?_
              refine a_bipush C0 10 dX6_taken_101 rfl ?_
              refine a_isub C0 dX6_taken_103 ?_
              refine a_icmp_ne C0 116 dX6_taken_104 rfl (fun h104 => ?_) (fun h104 => ?_)
              · refine a_bipush C0 (-13) dX6_taken_116 rfl ?_
                refine a_iret C0 hr dX6_taken_118 ?_
                have hq := hk.resolve_left fun q => absurd q.1 (Int32.not_lt.mpr h51)
                refine rt_ ?_
                unfold takR
                rw [if_pos hc]
                first
                  | (rw [if_pos h2]
                     rw [e11] at h104
                     first
                       | (rw [if_pos ⟨hq.2, h104⟩]
                          exact e12)
                       | rw [if_neg fun q => h104 q.2])
                  | (have n2 : ¬ H (ix v) 0 = 2 := fun q => h91 (by
                       have n1 : ¬ hdT P H (ix v) := fun z => absurd (z.1.symm.trans q) (by decide)
                       rw [if_neg n1, if_pos q])
                     have hd : hdT P H (ix v) := by
                       by_cases q : hdT P H (ix v)
                       · exact q
                       · exact absurd ((if_neg q).trans (if_neg n2)) h42
                     rw [if_neg n2, if_pos hd, if_neg fun q => q.1 hq.2])
              · refine a_aload_n C0 1 dX6_taken_107 rfl rfl ?_
                refine g_X6_43 C0 (lt_b rfl) rfl rfl dX6_taken_108 ?_
                refine a_iload_n C0 2 dX6_taken_111 rfl rfl ?_
                refine a_iald C0 _ (lt_b rfl) rfl hv4 rfl dX6_taken_112 ?_
                refine a_goto C0 118 dX6_taken_113 rfl ?_
                refine a_iret C0 hr dX6_taken_118 ?_
                have hq := hk.resolve_left fun q => absurd q.1 (Int32.not_lt.mpr h51)
                refine rt_ ?_
                unfold takR
                rw [if_pos hc]
                first
                  | (rw [if_pos h2]
                     rw [e11] at h104
                     first
                       | (rw [if_pos ⟨hq.2, h104⟩]
                          exact e12)
                       | rw [if_neg fun q => h104 q.2])
                  | (have n2 : ¬ H (ix v) 0 = 2 := fun q => h91 (by
                       have n1 : ¬ hdT P H (ix v) := fun z => absurd (z.1.symm.trans q) (by decide)
                       rw [if_neg n1, if_pos q])
                     have hd : hdT P H (ix v) := by
                       by_cases q : hdT P H (ix v)
                       · exact q
                       · exact absurd ((if_neg q).trans (if_neg n2)) h42
                     rw [if_neg n2, if_pos hd, if_neg fun q => q.1 hq.2])
          · refine a_iload_n C0 0 dX6_taken_54 rfl rfl ?_
            refine a_iconst C0 1 dX6_taken_55 rfl ?_
            refine a_icmp_ne C0 86 dX6_taken_56 rfl (fun h56 => ?_) (fun h56 => ?_)
            · refine a_bipush C0 (-13) dX6_taken_86 rfl ?_
              refine a_iret C0 hr dX6_taken_88 ?_
              have hq := hk.resolve_right fun q => q.1 (Int32.not_le.mp h51)
              refine rt_ ?_
              unfold takR
              rw [if_pos hc]
              first
                | (have n2 : ¬ H (ix v) 0 = 2 := fun q => absurd (hd.1.symm.trans q) (by decide)
                   rw [if_neg n2, if_pos hd]
                   first
                     | (rw [if_pos ⟨hq.2.2, h74⟩]
                        exact e11)
                     | rw [if_neg fun q => h74 q.2])
                | (have hd : ¬ hdT P H (ix v) := fun q => h56 (if_pos q)
                   rw [if_neg hd] at h42
                   have h2 : H (ix v) 0 = 2 := by
                     by_cases q : H (ix v) 0 = 2
                     · exact q
                     · exact absurd (if_neg q) h42
                   rw [if_pos h2, if_neg fun q => hq.2.2 q.1])
            · have hd : hdT P H (ix v) := by
                by_cases q : hdT P H (ix v)
                · exact q
                · rw [if_neg q] at h56
                  by_cases q2 : H (ix v) 0 = 2
                  · rw [if_pos q2] at h56
                    exact absurd h56 (by decide)
                  · rw [if_neg q2] at h56
                    exact absurd h56 (by decide)
              have e11 : mkM O S X 11 (ix v) = H (ix v) 1 := g2 hd.1
              have hq := hk.resolve_right fun q => q.1 (Int32.not_le.mp h51)
              have hx : IX (H (ix v) 1) (ix (H (ix v) 1)) nT := IX.v ((isTl_in rp.w).mp hd.2)
              refine a_aload_n C0 1 dX6_taken_59 rfl rfl ?_
              refine a_aload_n C0 1 dX6_taken_60 rfl rfl ?_
              refine g_X6_40 C0 (lt_b rfl) rfl rfl dX6_taken_61 ?_
              refine a_iload_n C0 2 dX6_taken_64 rfl rfl ?_
              refine a_iald C0 _ (lt_b rfl) rfl hv4 rfl dX6_taken_65 ?_
              rw [e11]
              refine a_iconst C0 0 dX6_taken_66 rfl ?_
              refine a_callV _ 2 C0 EM.refl (c_X6_its l G (c := 4) rp hx ⟨vq rfl, rfl⟩ rfl rfl) u_c_X6_its u_m_X6_167 u_im_X6_its u_se_X6_its u_in_X6 hy_X6_its rfl (lt_b rfl) rfl (hRk rfl) rfl rfl (le_b rfl) dX6_taken_67 (k_ro EM.refl ?_)
              refine a_iload_n C0 3 dX6_taken_70 rfl rfl ?_
              refine a_callS _ 2 C0 EM.z (c_X6_isUnder l G (rp.kdw _ hx.lt) (in_of (n := 5) (by decide) hq.2.1)) u_c_X6_isUnder u_m_X6_296 u_st_X6_isUnder u_in_X6 hy_X6_isUnder.2 (hRk rfl) rfl rfl (le_b rfl) dX6_taken_71 (k_ro EM.z ?_)
              refine a_if_eqb C0 86 dX6_taken_74 rfl (fun h74 => ?_) (fun h74 => ?_)
              · refine a_bipush C0 (-13) dX6_taken_86 rfl ?_
                refine a_iret C0 hr dX6_taken_88 ?_
                have hq := hk.resolve_right fun q => q.1 (Int32.not_le.mp h51)
                refine rt_ ?_
                unfold takR
                rw [if_pos hc]
                first
                  | (have n2 : ¬ H (ix v) 0 = 2 := fun q => absurd (hd.1.symm.trans q) (by decide)
                     rw [if_neg n2, if_pos hd]
                     first
                       | (rw [if_pos ⟨hq.2.2, h74⟩]
                          exact e11)
                       | rw [if_neg fun q => h74 q.2])
                  | (have hd : ¬ hdT P H (ix v) := fun q => h56 (if_pos q)
                     rw [if_neg hd] at h42
                     have h2 : H (ix v) 0 = 2 := by
                       by_cases q : H (ix v) 0 = 2
                       · exact q
                       · exact absurd (if_neg q) h42
                     rw [if_pos h2, if_neg fun q => hq.2.2 q.1])
              · refine a_aload_n C0 1 dX6_taken_77 rfl rfl ?_
                refine g_X6_40 C0 (lt_b rfl) rfl rfl dX6_taken_78 ?_
                refine a_iload_n C0 2 dX6_taken_81 rfl rfl ?_
                refine a_iald C0 _ (lt_b rfl) rfl hv4 rfl dX6_taken_82 ?_
                refine a_goto C0 88 dX6_taken_83 rfl ?_
                refine a_iret C0 hr dX6_taken_88 ?_
                have hq := hk.resolve_right fun q => q.1 (Int32.not_le.mp h51)
                refine rt_ ?_
                unfold takR
                rw [if_pos hc]
                first
                  | (have n2 : ¬ H (ix v) 0 = 2 := fun q => absurd (hd.1.symm.trans q) (by decide)
                     rw [if_neg n2, if_pos hd]
                     first
                       | (rw [if_pos ⟨hq.2.2, h74⟩]
                          exact e11)
                       | rw [if_neg fun q => h74 q.2])
                  | (have hd : ¬ hdT P H (ix v) := fun q => h56 (if_pos q)
                     rw [if_neg hd] at h42
                     have h2 : H (ix v) 0 = 2 := by
                       by_cases q : H (ix v) 0 = 2
                       · exact q
                       · exact absurd (if_neg q) h42
                     rw [if_pos h2, if_neg fun q => hq.2.2 q.1])
        · refine a_bipush C0 (-11) dX6_taken_45 rfl ?_
          refine a_iret C0 hr dX6_taken_47 ?_
          have n1 : ¬ hdT P H (ix v) := fun q => by
            rw [if_pos q] at h42
            exact absurd h42 (by decide)
          rw [if_neg n1] at h42
          have n2 : ¬ H (ix v) 0 = 2 := fun q => by
            rw [if_pos q] at h42
            exact absurd h42 (by decide)
          exact rt_ (by unfold takR; rw [if_pos hc, if_neg n2, if_neg n1])
      · refine a_iconst C0 (-1) dX6_taken_33 rfl ?_
        refine a_iret C0 hr dX6_taken_34 ?_
        have hc : ¬ (isSh v ∧ ((10 ≤ y ∧ y ≤ 13) ∨ (0 ≤ y ∧ y ≤ 5))) := fun q => by
          first
            | exact h4 q.1
            | exact tk_n (Or.inl h16) q.2
            | exact tk_n (Or.inr h30) q.2
        exact rt_ (by unfold takR; rw [if_neg hc])
