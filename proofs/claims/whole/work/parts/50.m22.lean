
theorem bo_t1 : ∀ k, k < 6 → (st_vals 3).getD (ix (nI k * 4 + 1)) 0 = (if k = 1 ∨ k = 3 then 20 else if k = 4 then 41 else 11) := by decide +kernel
theorem bo_t2 : ∀ k, k < 6 → (st_vals 3).getD (ix (nI k * 4 + 2)) 0 = (if k = 3 then 50 else if k = 5 then 61 else 12) := by decide +kernel
theorem bo_t3 : ∀ k, k < 6 → (st_vals 3).getD (ix (nI k * 4 + 3)) 0 = (if k = 2 ∨ k = 4 then 31 else if k = 5 then 60 else 13) := by decide +kernel
theorem bo_1 {D : WM} {k : Nat} (hk : k < 6) (e : D 0 2 = nI k) : bodyD D 1 = if k = 1 ∨ k = 3 then 20 else if k = 4 then 41 else 11 := by
  unfold bodyD
  rw [e]
  exact bo_t1 k hk
theorem bo_2 {D : WM} {k : Nat} (hk : k < 6) (e : D 0 2 = nI k) : bodyD D 2 = if k = 3 then 50 else if k = 5 then 61 else 12 := by
  unfold bodyD
  rw [e]
  exact bo_t2 k hk
theorem bo_3 {D : WM} {k : Nat} (hk : k < 6) (e : D 0 2 = nI k) : bodyD D 3 = if k = 2 ∨ k = 4 then 31 else if k = 5 then 60 else 13 := by
  unfold bodyD
  rw [e]
  exact bo_t3 k hk
theorem rn_sm {f k : Nat} {D : WM} {x : Int32} (h : D 0 5 = 0) (hk : k < 6) (e : D 0 2 = nI k) : rnD (f + 5) D (bodyD D 1) x = mSm D x := by
  rw [bo_1 hk e]
  unfold mSm
  rw [show (1 : Int32) = nI 1 from rfl, show (4 : Int32) = nI 4 from rfl, show (3 : Int32) = nI 3 from rfl]
  by_cases c1 : k = 1 ∨ k = 3
  · rw [if_pos c1, if_pos (c1.imp (k_ne hk e (by decide)).mpr (k_ne hk e (by decide)).mpr)]
    exact rn20 h hk e
  · rw [if_neg c1, if_neg (show ¬ (D 0 2 = nI 1 ∨ D 0 2 = nI 3) from fun q => c1 (q.imp (k_ne hk e (by decide)).mp (k_ne hk e (by decide)).mp))]
    by_cases c4 : k = 4
    · rw [if_pos c4, if_pos ((k_ne hk e (by decide)).mpr c4)]
      exact rn41 h hk e
    · rw [if_neg c4, if_neg fun q => c4 ((k_ne hk e (by decide)).mp q)]
      exact rn11 (f := f + 1) h hk e
theorem rn12 {f : Nat} {D : WM} {x : Int32} (h : D 0 5 = 0) : rnD (f + 1) D 12 x = mPtP D x := by
  rw [rnD_s h bd_.2.2.1, sD_12]
  rfl
theorem rn13 {f k : Nat} {D : WM} {x : Int32} (h : D 0 5 = 0) (hk : k < 6) (e : D 0 2 = nI k) : rnD (f + 6) D 13 x = mBuP D x := by
  rw [rnD_s h bd_.2.2.2.1, sD_13, rn_sm (n5_ h) hk (nk_ e)]
  rfl
theorem quo_f {D : WM} {x y : Int32} {j : Nat} (h : j ≠ 5) : (quoD D x y).2 0 j = D 0 j := by
  unfold quoD
  split
  · exact if_neg h
  · rfl
theorem quo_5 {D : WM} {x y : Int32} (h : D 0 5 = 0) : (quoD D x y).2 0 5 = 0 ∨ (quoD D x y).2 0 5 = 1 := by
  unfold quoD
  split
  · exact Or.inr rfl
  · exact Or.inl h
theorem mPtP_5 {D : WM} {x : Int32} (h : D 0 5 = 0) : (mPtP D x).2 0 5 = 0 ∨ (mPtP D x).2 0 5 = 1 := quo_5 (n5_ h)
theorem mPtP_q {D : WM} {x : Int32} (h : D 0 5 = 0) (q : ¬ (mPtP D x).2 0 5 = 0) : (mPtP D x).1 = 0 := by
  unfold mPtP quoD at q ⊢
  by_cases c : noteD D 12 0 4 - noteD D 12 0 3 = 0
  · rw [if_pos c]
  · rw [if_neg c] at q
    exact absurd (n5_ h) q
theorem rnD_p {f : Nat} {D : WM} {b x : Int32} (h : ¬ D 0 5 = 0) : rnD f D b x = (0, D) := by
  cases f with
  | zero => rfl
  | succ f => exact if_neg h
theorem rn_pt {f k : Nat} {D : WM} {x : Int32} (h : D 0 5 = 0) (hk : k < 6) (e : D 0 2 = nI k) : rnD (f + 4) D (bodyD D 2) x = mPt D x := by
  rw [bo_2 hk e]
  unfold mPt
  rw [show (3 : Int32) = nI 3 from rfl, show (5 : Int32) = nI 5 from rfl]
  by_cases c3 : k = 3
  · rw [if_pos c3, if_pos ((k_ne hk e (by decide)).mpr c3), rnD_s h bd_.2.2.2.2.2.2.2.2.2.1, sD_50, rn12 (f := f + 2) (n5_ h)]
  · rw [if_neg c3, if_neg fun q => c3 ((k_ne hk e (by decide)).mp q)]
    by_cases c5 : k = 5
    · rw [if_pos c5, if_pos ((k_ne hk e (by decide)).mpr c5), rnD_s h bd_.2.2.2.2.2.2.2.2.2.2.2.2, sD_61, rn12 (f := f + 2) (n5_ h)]
      have e2 : (mPtP (noteD D 61) x).2 0 2 = nI k := (quo_f (by decide)).trans (nk_ (nk_ e))
      by_cases q : (mPtP (noteD D 61) x).2 0 5 = 0
      · rw [if_pos q, rn_st (f := f) q hk e2]
      · rw [if_neg q, mPtP_q (n5_ h) q, rnD_p q]
        rfl
    · rw [if_neg c5, if_neg fun q => c5 ((k_ne hk e (by decide)).mp q)]
      exact rn12 (f := f + 3) h
theorem rn_bu {f k : Nat} {D : WM} {x : Int32} (h : D 0 5 = 0) (hk : k < 6) (e : D 0 2 = nI k) : rnD (f + 7) D (bodyD D 3) x = mBu D x := by
  rw [bo_3 hk e]
  unfold mBu
  rw [show (2 : Int32) = nI 2 from rfl, show (4 : Int32) = nI 4 from rfl, show (5 : Int32) = nI 5 from rfl]
  by_cases c1 : k = 2 ∨ k = 4
  · rw [if_pos c1, if_pos (c1.imp (k_ne hk e (by decide)).mpr (k_ne hk e (by decide)).mpr), rnD_s h bd_.2.2.2.2.2.2.1, sD_31, rn13 (n5_ h) hk (nk_ e), rn_pt (f := f + 2) ((mBuP_f (by decide)).trans (n5_ h)) hk ((mBuP_f (by decide)).trans (nk_ e))]
  · rw [if_neg c1, if_neg (show ¬ (D 0 2 = nI 2 ∨ D 0 2 = nI 4) from fun q => c1 (q.imp (k_ne hk e (by decide)).mp (k_ne hk e (by decide)).mp))]
    by_cases c5 : k = 5
    · rw [if_pos c5, if_pos ((k_ne hk e (by decide)).mpr c5), rnD_s h bd_.2.2.2.2.2.2.2.2.2.2.2.1, sD_60, rn13 (n5_ h) hk (nk_ e)]
    · rw [if_neg c5, if_neg fun q => c5 ((k_ne hk e (by decide)).mp q)]
      exact rn13 (f := f + 1) h hk e

