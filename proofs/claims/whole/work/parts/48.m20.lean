
theorem bd_ : BD 10 ∧ BD 11 ∧ BD 12 ∧ BD 13 ∧ BD 20 ∧ BD 30 ∧ BD 31 ∧ BD 40 ∧ BD 41 ∧ BD 50 ∧ BD 51 ∧ BD 60 ∧ BD 61 := by
  unfold BD
  refine ⟨?_, ?_, ?_, ?_, ?_, ?_, ?_, ?_, ?_, ?_, ?_, ?_, ?_⟩ <;> decide
theorem n5_ {D : WM} {b : Int32} (h : D 0 5 = 0) : noteD D b 0 5 = 0 := (note_f (by decide)).trans h
theorem rn10 {f : Nat} {D : WM} {x : Int32} (h : D 0 5 = 0) : rnD (f + 1) D 10 x = mStP D x := by
  rw [rnD_s h bd_.1, sD_10]
  rfl
theorem rn30 {f : Nat} {D : WM} {x : Int32} (h : D 0 5 = 0) : rnD (f + 2) D 30 x = mStR D x := by
  rw [rnD_s h bd_.2.2.2.2.2.1, sD_30, rn10 (n5_ h)]
  rfl
theorem bo_t : ∀ k, k < 6 → (st_vals 3).getD (ix (nI k * 4 + 0)) 0 = (if k = 2 then 30 else if k = 4 then 40 else if k = 3 then 51 else 10) := by decide +kernel
theorem bo_0 {D : WM} {k : Nat} (hk : k < 6) (e : D 0 2 = nI k) : bodyD D 0 = if k = 2 then 30 else if k = 4 then 40 else if k = 3 then 51 else 10 := by
  unfold bodyD
  rw [e]
  exact bo_t k hk
theorem k_ne {D : WM} {k j : Nat} (hk : k < 6) (e : D 0 2 = nI k) (hj : j < 6) : D 0 2 = nI j ↔ k = j := by
  rw [e]
  constructor
  · intro q
    have q2 := congrArg ix q
    rw [show ix (nI k) = k from nI_clamp (by omega), show ix (nI j) = j from nI_clamp (by omega)] at q2
    exact q2
  · intro q
    rw [q]
theorem rn_st {f k : Nat} {D : WM} {x : Int32} (h : D 0 5 = 0) (hk : k < 6) (e : D 0 2 = nI k) : rnD (f + 3) D (bodyD D 0) x = mSt D x := by
  rw [bo_0 hk e]
  unfold mSt
  rw [show (2 : Int32) = nI 2 from rfl, show (4 : Int32) = nI 4 from rfl, show (3 : Int32) = nI 3 from rfl]
  by_cases c2 : k = 2
  · rw [if_pos c2, if_pos ((k_ne hk e (by decide)).mpr c2)]
    exact rn30 h
  · rw [if_neg c2, if_neg fun q => c2 ((k_ne hk e (by decide)).mp q)]
    by_cases c4 : k = 4
    · rw [if_pos c4, if_pos ((k_ne hk e (by decide)).mpr c4), rnD_s h bd_.2.2.2.2.2.2.2.1, sD_40, rn30 (n5_ h)]
      rfl
    · rw [if_neg c4, if_neg fun q => c4 ((k_ne hk e (by decide)).mp q)]
      by_cases c3 : k = 3
      · rw [if_pos c3, if_pos ((k_ne hk e (by decide)).mpr c3), rnD_s h bd_.2.2.2.2.2.2.2.2.2.2.1, sD_51, rn10 (n5_ h)]
      · rw [if_neg c3, if_neg fun q => c3 ((k_ne hk e (by decide)).mp q)]
        exact rn10 h

