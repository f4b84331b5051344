
/-! the world of a Model: O its numbers, S its row, X its other rows by their cells -/
abbrev RW : Type := Nat → Int32
def upS (S : RW) (i : Nat) (v : Int32) : RW := fun k => if k = i then v else S k
def mkM (O S : RW) (X : WM) : WM := fun c => match c with
  | 0 => O
  | 1 => S
  | c + 2 => X (c + 2)
def stX (X : WM) (c : Nat) (g : RW) : WM := fun q => if q = c then g else X q
theorem mkM_O {O S : RW} {X : WM} {i : Nat} {v : Int32} : up2 (mkM O S X) 0 i v = mkM (upS O i v) S X := by
  funext c k
  match c with
  | 0 => rfl
  | 1 => rfl
  | c + 2 => rfl
theorem mkM_S {O S : RW} {X : WM} {i : Nat} {v : Int32} : up2 (mkM O S X) 1 i v = mkM O (upS S i v) X := by
  funext c k
  match c with
  | 0 => rfl
  | 1 => rfl
  | c + 2 => rfl
theorem mkM_X {O S : RW} {X : WM} {q i : Nat} {v : Int32} (h : 2 ≤ q) : up2 (mkM O S X) q i v = mkM O S (up2 X q i v) := by
  funext c k
  match c with
  | 0 =>
    show (if 0 = q then _ else _) = _
    rw [if_neg (by omega)]
    rfl
  | 1 =>
    show (if 1 = q then _ else _) = _
    rw [if_neg (by omega)]
    rfl
  | c + 2 => rfl
/-- but for what is laid aside (3) and before (4) -/
def EqX (X Y : WM) : Prop := ∀ c, c ≠ 3 → c ≠ 4 → Y c = X c
theorem EqX.refl (X : WM) : EqX X X := fun _ _ _ => rfl
theorem EqX.trans {X Y Z : WM} (h : EqX X Y) (k : EqX Y Z) : EqX X Z := fun c h3 h4 => (k c h3 h4).trans (h c h3 h4)
theorem EqX.st3 {X Y : WM} {g : RW} (h : EqX X Y) : EqX X (stX Y 3 g) := fun c h3 h4 => (if_neg h3).trans (h c h3 h4)
theorem EqX.st4 {X Y : WM} {g : RW} (h : EqX X Y) : EqX X (stX Y 4 g) := fun c h3 h4 => (if_neg h4).trans (h c h3 h4)
/-- a Parish and a row that say the same -/
def RP (P : WM) (S : RW) (T mm : Nat) : Prop := (P 0 8 = nI T) ∧ (S 0 = nI T) ∧ (T ≤ 8) ∧ (P 0 9 = nI mm) ∧ (S 1 = nI mm) ∧ (S 2 = P 0 10) ∧ (∀ i, i < 4 → S (3 + i) = P 1 i) ∧ (∀ h, h < 8 → S (7 + h) = P 2 h) ∧ (∀ h, h < 8 → S (15 + h) = P 3 h) ∧ (∀ h, h < 8 → S (23 + h) = (P 0 7 >>> (nI h &&& 31)) &&& 1) ∧ (∀ t j, t < T → j < 4 → S (31 + 4 * t + j) = P (4 + j) t) ∧ (∀ k, k < 8 → vp_in (P 2 k) 8) ∧ (∀ t, t < T → vp_in (P 6 t) 8) ∧ (∀ t, t < T → vp_in (P 5 t) 100) ∧ (∀ t, t < T → vp_in (P 7 t) 256) ∧ (∀ t, t < T → vp_in (P 4 t) 6) ∧ (vp_in (P 0 7) 256) ∧ (vp_in (P 1 3) 100)
theorem RP.mk {P : WM} {S : RW} {T mm : Nat} (n1 : P 0 8 = nI T) (n2 : S 0 = nI T) (t8 : T ≤ 8) (m1 : P 0 9 = nI mm) (m2 : S 1 = nI mm) (z : S 2 = P 0 10) (law : ∀ i, i < 4 → S (3 + i) = P 1 i) (fr : ∀ h, h < 8 → S (7 + h) = P 2 h) (ta : ∀ h, h < 8 → S (15 + h) = P 3 h) (bx : ∀ h, h < 8 → S (23 + h) = (P 0 7 >>> (nI h &&& 31)) &&& 1) (of : ∀ t j, t < T → j < 4 → S (31 + 4 * t + j) = P (4 + j) t) (frw : ∀ k, k < 8 → vp_in (P 2 k) 8) (atw : ∀ t, t < T → vp_in (P 6 t) 8) (hew : ∀ t, t < T → vp_in (P 5 t) 100) (hdw : ∀ t, t < T → vp_in (P 7 t) 256) (kdw : ∀ t, t < T → vp_in (P 4 t) 6) (bxw : vp_in (P 0 7) 256) (lw : vp_in (P 1 3) 100) : RP P S T mm := ⟨n1, n2, t8, m1, m2, z, law, fr, ta, bx, of, frw, atw, hew, hdw, kdw, bxw, lw⟩
theorem RP.n1 {P : WM} {S : RW} {T mm : Nat} (r : RP P S T mm) : P 0 8 = nI T := r.1
theorem RP.n2 {P : WM} {S : RW} {T mm : Nat} (r : RP P S T mm) : S 0 = nI T := r.2.1
theorem RP.t8 {P : WM} {S : RW} {T mm : Nat} (r : RP P S T mm) : T ≤ 8 := r.2.2.1
theorem RP.m1 {P : WM} {S : RW} {T mm : Nat} (r : RP P S T mm) : P 0 9 = nI mm := r.2.2.2.1
theorem RP.m2 {P : WM} {S : RW} {T mm : Nat} (r : RP P S T mm) : S 1 = nI mm := r.2.2.2.2.1
theorem RP.z {P : WM} {S : RW} {T mm : Nat} (r : RP P S T mm) : S 2 = P 0 10 := r.2.2.2.2.2.1
theorem RP.law {P : WM} {S : RW} {T mm : Nat} (r : RP P S T mm) : ∀ i, i < 4 → S (3 + i) = P 1 i := r.2.2.2.2.2.2.1
theorem RP.fr {P : WM} {S : RW} {T mm : Nat} (r : RP P S T mm) : ∀ h, h < 8 → S (7 + h) = P 2 h := r.2.2.2.2.2.2.2.1
theorem RP.ta {P : WM} {S : RW} {T mm : Nat} (r : RP P S T mm) : ∀ h, h < 8 → S (15 + h) = P 3 h := r.2.2.2.2.2.2.2.2.1
theorem RP.bx {P : WM} {S : RW} {T mm : Nat} (r : RP P S T mm) : ∀ h, h < 8 → S (23 + h) = (P 0 7 >>> (nI h &&& 31)) &&& 1 := r.2.2.2.2.2.2.2.2.2.1
theorem RP.of {P : WM} {S : RW} {T mm : Nat} (r : RP P S T mm) : ∀ t j, t < T → j < 4 → S (31 + 4 * t + j) = P (4 + j) t := r.2.2.2.2.2.2.2.2.2.2.1
theorem RP.frw {P : WM} {S : RW} {T mm : Nat} (r : RP P S T mm) : ∀ k, k < 8 → vp_in (P 2 k) 8 := r.2.2.2.2.2.2.2.2.2.2.2.1
theorem RP.atw {P : WM} {S : RW} {T mm : Nat} (r : RP P S T mm) : ∀ t, t < T → vp_in (P 6 t) 8 := r.2.2.2.2.2.2.2.2.2.2.2.2.1
theorem RP.hew {P : WM} {S : RW} {T mm : Nat} (r : RP P S T mm) : ∀ t, t < T → vp_in (P 5 t) 100 := r.2.2.2.2.2.2.2.2.2.2.2.2.2.1
theorem RP.hdw {P : WM} {S : RW} {T mm : Nat} (r : RP P S T mm) : ∀ t, t < T → vp_in (P 7 t) 256 := r.2.2.2.2.2.2.2.2.2.2.2.2.2.2.1
theorem RP.kdw {P : WM} {S : RW} {T mm : Nat} (r : RP P S T mm) : ∀ t, t < T → vp_in (P 4 t) 6 := r.2.2.2.2.2.2.2.2.2.2.2.2.2.2.2.1
theorem RP.bxw {P : WM} {S : RW} {T mm : Nat} (r : RP P S T mm) : vp_in (P 0 7) 256 := r.2.2.2.2.2.2.2.2.2.2.2.2.2.2.2.2.1
theorem RP.lw {P : WM} {S : RW} {T mm : Nat} (r : RP P S T mm) : vp_in (P 1 3) 100 := r.2.2.2.2.2.2.2.2.2.2.2.2.2.2.2.2.2
theorem RP.w {P : WM} {S : RW} {T mm : Nat} (r : RP P S T mm) : WFP P T := ⟨r.n1, r.t8, r.frw, r.atw⟩
theorem RP.eqS {P : WM} {S S2 : RW} {T mm : Nat} (r : RP P S T mm) (h : ∀ k, k < 63 → S2 k = S k) : RP P S2 T mm := by
  have t8 := r.t8
  exact RP.mk
    (n1 := r.n1)
    (n2 := (h 0 (by decide)).trans r.n2)
    (t8 := r.t8)
    (m1 := r.m1)
    (m2 := (h 1 (by decide)).trans r.m2)
    (z := (h 2 (by decide)).trans r.z)
    (law := fun i hi => (h _ (by omega)).trans (r.law i hi))
    (fr := fun i hi => (h _ (by omega)).trans (r.fr i hi))
    (ta := fun i hi => (h _ (by omega)).trans (r.ta i hi))
    (bx := fun i hi => (h _ (by omega)).trans (r.bx i hi))
    (of := fun t j ht hj => (h _ (by omega)).trans (r.of t j ht hj))
    (frw := r.frw)
    (atw := r.atw)
    (hew := r.hew)
    (hdw := r.hdw)
    (kdw := r.kdw)
    (bxw := r.bxw)
    (lw := r.lw)
/-- what the row is of, when one place of it changes -/
theorem up_ne {S : RW} {i k : Nat} {v : Int32} (h : k ≠ i) : upS S i v k = S k := if_neg h
theorem up2_at {P : WM} {c i q k : Nat} {v : Int32} (h : q ≠ c) : up2 P c i v q k = P q k := if_neg h
theorem up_eq {S : RW} {i : Nat} {v : Int32} : upS S i v i = v := if_pos rfl
theorem RP.min {P : WM} {S : RW} {T mm : Nat} (r : RP P S T mm) : RP (up2 P 0 9 (P 0 9 + 1)) (upS S 1 (S 1 + 1)) T (mm + 1) := by
  have t8 := r.t8
  exact RP.mk
    (n1 := r.n1)
    (n2 := r.n2)
    (t8 := r.t8)
    (m1 := by
      show P 0 9 + 1 = _
      rw [r.m1, nI_1])
    (m2 := by
      show S 1 + 1 = _
      rw [r.m2, nI_1])
    (z := r.z)
    (law := fun i hi => (up_ne (by omega)).trans (r.law i hi))
    (fr := fun i hi => (up_ne (by omega)).trans (r.fr i hi))
    (ta := fun i hi => (up_ne (by omega)).trans (r.ta i hi))
    (bx := fun i hi => (up_ne (by omega)).trans (r.bx i hi))
    (of := fun t j ht hj => (up_ne (by omega)).trans ((r.of t j ht hj).trans (up2_at (by omega)).symm))
    (frw := r.frw)
    (atw := r.atw)
    (hew := r.hew)
    (hdw := r.hdw)
    (kdw := r.kdw)
    (bxw := r.bxw)
    (lw := r.lw)
theorem RP.zz {P : WM} {S : RW} {T mm : Nat} {v : Int32} (r : RP P S T mm) : RP (up2 P 0 10 v) (upS S 2 v) T mm := by
  have t8 := r.t8
  exact RP.mk
    (n1 := r.n1)
    (n2 := r.n2)
    (t8 := r.t8)
    (m1 := r.m1)
    (m2 := r.m2)
    (z := rfl)
    (law := fun i hi => (up_ne (by omega)).trans (r.law i hi))
    (fr := fun i hi => (up_ne (by omega)).trans (r.fr i hi))
    (ta := fun i hi => (up_ne (by omega)).trans (r.ta i hi))
    (bx := fun i hi => (up_ne (by omega)).trans (r.bx i hi))
    (of := fun t j ht hj => (up_ne (by omega)).trans ((r.of t j ht hj).trans (up2_at (by omega)).symm))
    (frw := r.frw)
    (atw := r.atw)
    (hew := r.hew)
    (hdw := r.hdw)
    (kdw := r.kdw)
    (bxw := r.bxw)
    (lw := r.lw)
theorem RP.law' {P : WM} {S : RW} {T mm q : Nat} {v : Int32} (r : RP P S T mm) (hq : q < 4) (hv : q = 3 → vp_in v 100) : RP (up2 P 1 q v) (upS S (3 + q) v) T mm := by
  have t8 := r.t8
  exact RP.mk
    (n1 := r.n1)
    (n2 := (up_ne (by omega)).trans r.n2)
    (t8 := r.t8)
    (m1 := r.m1)
    (m2 := (up_ne (by omega)).trans r.m2)
    (z := (up_ne (by omega)).trans r.z)
    (law := fun i hi => by
      show upS S (3 + q) v (3 + i) = if i = q then v else P 1 i
      by_cases h : i = q
      · subst h
        rw [if_pos rfl, up_eq]
      · rw [if_neg h, up_ne (by omega), r.law i hi])
    (fr := fun i hi => (up_ne (by omega)).trans (r.fr i hi))
    (ta := fun i hi => (up_ne (by omega)).trans (r.ta i hi))
    (bx := fun i hi => (up_ne (by omega)).trans (r.bx i hi))
    (of := fun t j ht hj => (up_ne (by omega)).trans ((r.of t j ht hj).trans (up2_at (by omega)).symm))
    (frw := r.frw)
    (atw := r.atw)
    (hew := r.hew)
    (hdw := r.hdw)
    (kdw := r.kdw)
    (bxw := r.bxw)
    (lw := by
      show vp_in (if 3 = q then v else P 1 3) 100
      split
      · next h => exact hv h.symm
      · exact r.lw)
theorem RP.fr' {P : WM} {S : RW} {T mm q : Nat} {v : Int32} (r : RP P S T mm) (hq : q < 8) (hv : vp_in v 8) : RP (up2 P 2 q v) (upS S (7 + q) v) T mm := by
  have t8 := r.t8
  exact RP.mk
    (n1 := r.n1)
    (n2 := (up_ne (by omega)).trans r.n2)
    (t8 := r.t8)
    (m1 := r.m1)
    (m2 := (up_ne (by omega)).trans r.m2)
    (z := (up_ne (by omega)).trans r.z)
    (law := fun i hi => (up_ne (by omega)).trans (r.law i hi))
    (fr := fun i hi => by
      show upS S (7 + q) v (7 + i) = if i = q then v else P 2 i
      by_cases h : i = q
      · subst h
        rw [if_pos rfl, up_eq]
      · rw [if_neg h, up_ne (by omega), r.fr i hi])
    (ta := fun i hi => (up_ne (by omega)).trans (r.ta i hi))
    (bx := fun i hi => (up_ne (by omega)).trans (r.bx i hi))
    (of := fun t j ht hj => (up_ne (by omega)).trans ((r.of t j ht hj).trans (up2_at (by omega)).symm))
    (frw := fun k hk => by
      show vp_in (if k = q then v else P 2 k) 8
      split
      · exact hv
      · exact r.frw k hk)
    (atw := r.atw)
    (hew := r.hew)
    (hdw := r.hdw)
    (kdw := r.kdw)
    (bxw := r.bxw)
    (lw := r.lw)
theorem RP.ta' {P : WM} {S : RW} {T mm q : Nat} {v : Int32} (r : RP P S T mm) (hq : q < 8) : RP (up2 P 3 q v) (upS S (15 + q) v) T mm := by
  have t8 := r.t8
  exact RP.mk
    (n1 := r.n1)
    (n2 := (up_ne (by omega)).trans r.n2)
    (t8 := r.t8)
    (m1 := r.m1)
    (m2 := (up_ne (by omega)).trans r.m2)
    (z := (up_ne (by omega)).trans r.z)
    (law := fun i hi => (up_ne (by omega)).trans (r.law i hi))
    (fr := fun i hi => (up_ne (by omega)).trans (r.fr i hi))
    (ta := fun i hi => by
      show upS S (15 + q) v (15 + i) = if i = q then v else P 3 i
      by_cases h : i = q
      · subst h
        rw [if_pos rfl, up_eq]
      · rw [if_neg h, up_ne (by omega), r.ta i hi])
    (bx := fun i hi => (up_ne (by omega)).trans (r.bx i hi))
    (of := fun t j ht hj => (up_ne (by omega)).trans ((r.of t j ht hj).trans (up2_at (by omega)).symm))
    (frw := r.frw)
    (atw := r.atw)
    (hew := r.hew)
    (hdw := r.hdw)
    (kdw := r.kdw)
    (bxw := r.bxw)
    (lw := r.lw)
/-- a tale's place -/
theorem RP.of' {P : WM} {S : RW} {T mm t j : Nat} {v : Int32} (r : RP P S T mm) (ht : t < T) (hj : j < 4) (h0 : j = 0 → vp_in v 6) (h1 : j = 1 → vp_in v 100) (h2 : j = 2 → vp_in v 8) (h3 : j = 3 → vp_in v 256) : RP (up2 P (4 + j) t v) (upS S (31 + 4 * t + j) v) T mm := by
  have t8 := r.t8
  have wf : ∀ (c N : Nat) (_ : ∀ q, q < T → vp_in (P c q) N) (_ : c = 4 + j → vp_in v N) q, q < T → vp_in (up2 P (4 + j) t v c q) N := by
    intro c N hw hc q hq
    show vp_in (if c = 4 + j then (if q = t then v else P c q) else P c q) N
    by_cases e : c = 4 + j
    · rw [if_pos e]
      by_cases e2 : q = t
      · rw [if_pos e2]
        exact hc e
      · rw [if_neg e2]
        exact hw q hq
    · rw [if_neg e]
      exact hw q hq
  have ne : ∀ c, c < 4 → up2 P (4 + j) t v c = P c := fun c hc => by
    funext k
    exact if_neg (by omega)
  exact RP.mk
    (n1 := by rw [ne 0 (by decide)]; exact r.n1)
    (n2 := (up_ne (by omega)).trans r.n2)
    (t8 := r.t8)
    (m1 := by rw [ne 0 (by decide)]; exact r.m1)
    (m2 := (up_ne (by omega)).trans r.m2)
    (z := by rw [ne 0 (by decide)]; exact (up_ne (by omega)).trans r.z)
    (law := fun i hi => by rw [ne 1 (by decide)]; exact (up_ne (by omega)).trans (r.law i hi))
    (fr := fun i hi => by rw [ne 2 (by decide)]; exact (up_ne (by omega)).trans (r.fr i hi))
    (ta := fun i hi => by rw [ne 3 (by decide)]; exact (up_ne (by omega)).trans (r.ta i hi))
    (bx := fun i hi => by rw [ne 0 (by decide)]; exact (up_ne (by omega)).trans (r.bx i hi))
    (of := fun t2 j2 ht2 hj2 => by
      show (if 31 + 4 * t2 + j2 = 31 + 4 * t + j then v else S (31 + 4 * t2 + j2)) = if 4 + j2 = 4 + j then (if t2 = t then v else P (4 + j2) t2) else P (4 + j2) t2
      by_cases e : 31 + 4 * t2 + j2 = 31 + 4 * t + j
      · rw [if_pos e, if_pos (by omega), if_pos (by omega)]
      · rw [if_neg e, r.of t2 j2 ht2 hj2]
        by_cases e2 : 4 + j2 = 4 + j
        · rw [if_pos e2, if_neg (by omega)]
        · rw [if_neg e2])
    (frw := fun k hk => by rw [ne 2 (by decide)]; exact r.frw k hk)
    (atw := wf 6 8 r.atw fun e => h2 (by omega))
    (hew := wf 5 100 r.hew fun e => h1 (by omega))
    (hdw := wf 7 256 r.hdw fun e => h3 (by omega))
    (kdw := wf 4 6 r.kdw fun e => h0 (by omega))
    (bxw := by rw [ne 0 (by decide)]; exact r.bxw)
    (lw := by rw [ne 1 (by decide)]; exact r.lw)
theorem dvp (x : Int32) (n : Nat) : (decide (0 ≤ x.toInt) && decide (x.toInt < n)) = true ↔ vp_in x n := by
  rw [vp_in_iff, Bool.and_eq_true, decide_eq_true_iff, decide_eq_true_iff]
theorem or_in : ∀ a, a < 256 → ∀ h, h < 8 → (decide (0 ≤ (nI a ||| 1 <<< (nI h &&& 31)).toInt) && decide ((nI a ||| 1 <<< (nI h &&& 31)).toInt < (256 : Nat))) = true := by decide +kernel
theorem or_in' {x h : Int32} (hx : vp_in x 256) (hh : vp_in h 8) : vp_in (x ||| 1 <<< (h &&& 31)) 256 := by
  obtain ⟨a, ha, rfl⟩ := vp_in_of hx (by decide)
  obtain ⟨b, hb, rfl⟩ := vp_in_of hh (by decide)
  exact (dvp _ _).mp (or_in a ha b hb)
theorem RP.bring {P : WM} {S : RW} {T mm t : Nat} {h : Int32} (r : RP P S T mm) (ht : t < T) (hh : vp_in h 8) : RP (bringP P t h) (upS (upS S (31 + 4 * t + 2) h) (31 + 4 * t + 3) (S (31 + 4 * t + 3) ||| 1 <<< (h &&& 31))) T mm := by
  rw [r.of t 3 ht (by decide)]
  exact (r.of' (j := 2) (v := h) ht (by decide) (fun q => absurd q (by decide)) (fun q => absurd q (by decide)) (fun _ => hh) (fun q => absurd q (by decide))).of' (j := 3) (v := P 7 t ||| 1 <<< (h &&& 31)) ht (by decide) (fun q => absurd q (by decide)) (fun q => absurd q (by decide)) (fun q => absurd q (by decide)) (fun _ => or_in' (r.hdw t ht) hh)
theorem held_in (v : Int32) : vp_in (held v) 100 := by
  unfold held
  rw [vp_in_iff]
  by_cases h : v < 99
  · rw [if_pos h]
    by_cases h2 : (0 : Int32) < v
    · rw [if_pos h2]
      have a1 := Int32.lt_iff_toInt_lt.mp h
      have a2 := Int32.lt_iff_toInt_lt.mp h2
      have a1 : v.toInt < 99 := a1
      have a2 : 0 < v.toInt := a2
      omega
    · rw [if_neg h2]
      decide
  · rw [if_neg h]
    decide
theorem RP.heat {P : WM} {S : RW} {T mm t : Nat} {v : Int32} (r : RP P S T mm) (ht : t < T) (hv : vp_in v 100) : RP (up2 P 5 t v) (upS S (31 + 4 * t + 1) v) T mm := r.of' (j := 1) ht (by decide) (fun q => absurd q (by decide)) (fun _ => hv) (fun q => absurd q (by decide)) (fun q => absurd q (by decide))
/-! sizes of sets -/
def cntK : Nat → Int32 → Int32 → Int32
  | 0, _, n => n
  | f + 1, a, n => if a = 0 then n else cntK f (a &&& (a - 1)) (n + 1)
def zerK : Nat → Int32 → Bool
  | 0, a => decide (a = 0)
  | f + 1, a => decide (a = 0) || zerK f (a &&& (a - 1))
theorem cnt_t : ∀ a, a < 256 → (zerK 8 (nI a) && decide (cntK 8 (nI a) 0 = bcS (nI a))) = true := by decide +kernel

