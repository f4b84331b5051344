
theorem nk_ {D : WM} {b : Int32} {k : Nat} (e : D 0 2 = nI k) : noteD D b 0 2 = nI k := (note_f (by decide)).trans e
theorem rn11 {f k : Nat} {D : WM} {x : Int32} (h : D 0 5 = 0) (hk : k < 6) (e : D 0 2 = nI k) : rnD (f + 4) D 11 x = mSmP D x := by
  rw [rnD_s h bd_.2.1, sD_11, rn_st (n5_ h) hk (nk_ e)]
  rfl
theorem rn20 {f k : Nat} {D : WM} {x : Int32} (h : D 0 5 = 0) (hk : k < 6) (e : D 0 2 = nI k) : rnD (f + 5) D 20 x = ((mSmP (noteD D 20) x).1 - 1, (mSmP (noteD D 20) x).2) := by
  rw [rnD_s h bd_.2.2.2.2.1, sD_20, rn11 (n5_ h) hk (nk_ e)]
theorem rn41 {f k : Nat} {D : WM} {x : Int32} (h : D 0 5 = 0) (hk : k < 6) (e : D 0 2 = nI k) : rnD (f + 5) D 41 x = ((mSmP (noteD D 41) x).1 ^^^ (mSt (mSmP (noteD D 41) x).2 ((mSmP (noteD D 41) x).2 0 4)).1, (mSt (mSmP (noteD D 41) x).2 ((mSmP (noteD D 41) x).2 0 4)).2) := by
  rw [rnD_s h bd_.2.2.2.2.2.2.2.2.1, sD_41, rn11 (n5_ h) hk (nk_ e), rn_st (f := f + 1) ((mSmP_f (by decide)).trans (n5_ h)) hk ((mSmP_f (by decide)).trans (nk_ e))]

