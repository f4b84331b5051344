
/-! the world of a WarmGossip by its parts: O its own numbers, N now, K kept, T tried, B tape, R rows, S sheets (2 j: the Sheet, 2 j + 1: its items), H shelves, Z doing -/
def mkX (O : Nat → Int32) (N K T B R S H Z : WM) : WM := fun c =>
  if c < 1 then O else if c < 9 then N (c - 1) else if c < 17 then K (c - 9) else if c < 25 then T (c - 17) else if c < 27 then B (c - 25) else if c < 28 then (fun _ => 0) else if c < 38 then R (c - 28) else if c < 39 then (fun _ => 0) else if c < 47 then S (c - 39) else if c < 48 then (fun _ => 0) else if c < 52 then H (c - 48) else Z (c - 52)
section MX
variable {O : Nat → Int32} {N K T B R S H Z : WM}
theorem mkX_N {q : Nat} (h : q < 8) : mkX O N K T B R S H Z (1 + q) = N q := by
  unfold mkX
  rw [if_neg (by omega), if_pos (by omega), Nat.add_sub_cancel_left]
theorem mkX_No {q : Nat} {u : WM} (h : q < 1 ∨ 9 ≤ q) (h2 : q < 54) : mkX O u K T B R S H Z q = mkX O N K T B R S H Z q := by
  match q, h2, h with
  | 0, _, _ => rfl
  | 1, _, h => exact absurd h (by omega)
  | 2, _, h => exact absurd h (by omega)
  | 3, _, h => exact absurd h (by omega)
  | 4, _, h => exact absurd h (by omega)
  | 5, _, h => exact absurd h (by omega)
  | 6, _, h => exact absurd h (by omega)
  | 7, _, h => exact absurd h (by omega)
  | 8, _, h => exact absurd h (by omega)
  | 9, _, _ => rfl
  | 10, _, _ => rfl
  | 11, _, _ => rfl
  | 12, _, _ => rfl
  | 13, _, _ => rfl
  | 14, _, _ => rfl
  | 15, _, _ => rfl
  | 16, _, _ => rfl
  | 17, _, _ => rfl
  | 18, _, _ => rfl
  | 19, _, _ => rfl
  | 20, _, _ => rfl
  | 21, _, _ => rfl
  | 22, _, _ => rfl
  | 23, _, _ => rfl
  | 24, _, _ => rfl
  | 25, _, _ => rfl
  | 26, _, _ => rfl
  | 27, _, _ => rfl
  | 28, _, _ => rfl
  | 29, _, _ => rfl
  | 30, _, _ => rfl
  | 31, _, _ => rfl
  | 32, _, _ => rfl
  | 33, _, _ => rfl
  | 34, _, _ => rfl
  | 35, _, _ => rfl
  | 36, _, _ => rfl
  | 37, _, _ => rfl
  | 38, _, _ => rfl
  | 39, _, _ => rfl
  | 40, _, _ => rfl
  | 41, _, _ => rfl
  | 42, _, _ => rfl
  | 43, _, _ => rfl
  | 44, _, _ => rfl
  | 45, _, _ => rfl
  | 46, _, _ => rfl
  | 47, _, _ => rfl
  | 48, _, _ => rfl
  | 49, _, _ => rfl
  | 50, _, _ => rfl
  | 51, _, _ => rfl
  | 52, _, _ => rfl
  | 53, _, _ => rfl
  | i + 54, h2, _ => exact absurd h2 (by omega)
theorem mkX_Nu {q i : Nat} {v : Int32} (h : q < 8) : ∀ c, c < 54 → up2 (mkX O N K T B R S H Z) (1 + q) i v c = mkX O (up2 N q i v) K T B R S H Z c := by
  intro c hc
  by_cases h1 : c = 1 + q
  · subst h1
    rw [mkX_N h]
    funext x
    show (if 1 + q = 1 + q then (if x = i then v else mkX O N K T B R S H Z (1 + q) x) else _) = if q = q then _ else _
    rw [if_pos rfl, if_pos rfl, mkX_N h]
  · by_cases h2 : 1 ≤ c ∧ c < 9
    · obtain ⟨q2, rfl⟩ : ∃ q2, c = 1 + q2 := ⟨c - 1, by omega⟩
      rw [mkX_N (by omega)]
      funext x
      show (if 1 + q2 = 1 + q then _ else mkX O N K T B R S H Z (1 + q2) x) = if q2 = q then _ else _
      rw [if_neg h1, if_neg (by omega), mkX_N (by omega)]
    · rw [mkX_No (by omega) hc]
      funext x
      exact if_neg h1
theorem em_XN {G : GE} {ad : Nat → Nat} : EM 54 8 ad (fun k => ad (1 + k)) (shX G ad) (shP G (fun k => ad (1 + k))) (mkX O N K T B R S H Z) N (fun u => mkX O u K T B R S H Z) := by
  refine ⟨fun k => 1 + k, fun k h => ⟨by show 1 + k < 54; omega, rfl, (mkX_N h).symm, ?_⟩, fun j k _ _ h => by have h : 1 + j = 1 + k := h; omega, fun u => ⟨fun k h => mkX_N h, fun i hi h => mkX_No ?_ hi⟩⟩
  · intro f
    match k, h with
    | 0, _ => rfl
    | 1, _ => rfl
    | 2, _ => rfl
    | 3, _ => rfl
    | 4, _ => rfl
    | 5, _ => rfl
    | 6, _ => rfl
    | 7, _ => rfl
  · by_cases h1 : i < 1
    · exact Or.inl h1
    · refine Or.inr (Nat.not_lt.mp fun h2 => h (i - 1) (by omega) (by show 1 + (i - 1) = i; omega))
theorem mkX_K {q : Nat} (h : q < 8) : mkX O N K T B R S H Z (9 + q) = K q := by
  unfold mkX
  rw [if_neg (by omega), if_neg (by omega), if_pos (by omega), Nat.add_sub_cancel_left]
theorem mkX_Ko {q : Nat} {u : WM} (h : q < 9 ∨ 17 ≤ q) (h2 : q < 54) : mkX O N u T B R S H Z q = mkX O N K T B R S H Z q := by
  match q, h2, h with
  | 0, _, _ => rfl
  | 1, _, _ => rfl
  | 2, _, _ => rfl
  | 3, _, _ => rfl
  | 4, _, _ => rfl
  | 5, _, _ => rfl
  | 6, _, _ => rfl
  | 7, _, _ => rfl
  | 8, _, _ => rfl
  | 9, _, h => exact absurd h (by omega)
  | 10, _, h => exact absurd h (by omega)
  | 11, _, h => exact absurd h (by omega)
  | 12, _, h => exact absurd h (by omega)
  | 13, _, h => exact absurd h (by omega)
  | 14, _, h => exact absurd h (by omega)
  | 15, _, h => exact absurd h (by omega)
  | 16, _, h => exact absurd h (by omega)
  | 17, _, _ => rfl
  | 18, _, _ => rfl
  | 19, _, _ => rfl
  | 20, _, _ => rfl
  | 21, _, _ => rfl
  | 22, _, _ => rfl
  | 23, _, _ => rfl
  | 24, _, _ => rfl
  | 25, _, _ => rfl
  | 26, _, _ => rfl
  | 27, _, _ => rfl
  | 28, _, _ => rfl
  | 29, _, _ => rfl
  | 30, _, _ => rfl
  | 31, _, _ => rfl
  | 32, _, _ => rfl
  | 33, _, _ => rfl
  | 34, _, _ => rfl
  | 35, _, _ => rfl
  | 36, _, _ => rfl
  | 37, _, _ => rfl
  | 38, _, _ => rfl
  | 39, _, _ => rfl
  | 40, _, _ => rfl
  | 41, _, _ => rfl
  | 42, _, _ => rfl
  | 43, _, _ => rfl
  | 44, _, _ => rfl
  | 45, _, _ => rfl
  | 46, _, _ => rfl
  | 47, _, _ => rfl
  | 48, _, _ => rfl
  | 49, _, _ => rfl
  | 50, _, _ => rfl
  | 51, _, _ => rfl
  | 52, _, _ => rfl
  | 53, _, _ => rfl
  | i + 54, h2, _ => exact absurd h2 (by omega)
theorem mkX_Ku {q i : Nat} {v : Int32} (h : q < 8) : ∀ c, c < 54 → up2 (mkX O N K T B R S H Z) (9 + q) i v c = mkX O N (up2 K q i v) T B R S H Z c := by
  intro c hc
  by_cases h1 : c = 9 + q
  · subst h1
    rw [mkX_K h]
    funext x
    show (if 9 + q = 9 + q then (if x = i then v else mkX O N K T B R S H Z (9 + q) x) else _) = if q = q then _ else _
    rw [if_pos rfl, if_pos rfl, mkX_K h]
  · by_cases h2 : 9 ≤ c ∧ c < 17
    · obtain ⟨q2, rfl⟩ : ∃ q2, c = 9 + q2 := ⟨c - 9, by omega⟩
      rw [mkX_K (by omega)]
      funext x
      show (if 9 + q2 = 9 + q then _ else mkX O N K T B R S H Z (9 + q2) x) = if q2 = q then _ else _
      rw [if_neg h1, if_neg (by omega), mkX_K (by omega)]
    · rw [mkX_Ko (by omega) hc]
      funext x
      exact if_neg h1
theorem em_XK {G : GE} {ad : Nat → Nat} : EM 54 8 ad (fun k => ad (9 + k)) (shX G ad) (shP G (fun k => ad (9 + k))) (mkX O N K T B R S H Z) K (fun u => mkX O N u T B R S H Z) := by
  refine ⟨fun k => 9 + k, fun k h => ⟨by show 9 + k < 54; omega, rfl, (mkX_K h).symm, ?_⟩, fun j k _ _ h => by have h : 9 + j = 9 + k := h; omega, fun u => ⟨fun k h => mkX_K h, fun i hi h => mkX_Ko ?_ hi⟩⟩
  · intro f
    match k, h with
    | 0, _ => rfl
    | 1, _ => rfl
    | 2, _ => rfl
    | 3, _ => rfl
    | 4, _ => rfl
    | 5, _ => rfl
    | 6, _ => rfl
    | 7, _ => rfl
  · by_cases h1 : i < 9
    · exact Or.inl h1
    · refine Or.inr (Nat.not_lt.mp fun h2 => h (i - 9) (by omega) (by show 9 + (i - 9) = i; omega))
theorem mkX_T {q : Nat} (h : q < 8) : mkX O N K T B R S H Z (17 + q) = T q := by
  unfold mkX
  rw [if_neg (by omega), if_neg (by omega), if_neg (by omega), if_pos (by omega), Nat.add_sub_cancel_left]
theorem mkX_To {q : Nat} {u : WM} (h : q < 17 ∨ 25 ≤ q) (h2 : q < 54) : mkX O N K u B R S H Z q = mkX O N K T B R S H Z q := by
  match q, h2, h with
  | 0, _, _ => rfl
  | 1, _, _ => rfl
  | 2, _, _ => rfl
  | 3, _, _ => rfl
  | 4, _, _ => rfl
  | 5, _, _ => rfl
  | 6, _, _ => rfl
  | 7, _, _ => rfl
  | 8, _, _ => rfl
  | 9, _, _ => rfl
  | 10, _, _ => rfl
  | 11, _, _ => rfl
  | 12, _, _ => rfl
  | 13, _, _ => rfl
  | 14, _, _ => rfl
  | 15, _, _ => rfl
  | 16, _, _ => rfl
  | 17, _, h => exact absurd h (by omega)
  | 18, _, h => exact absurd h (by omega)
  | 19, _, h => exact absurd h (by omega)
  | 20, _, h => exact absurd h (by omega)
  | 21, _, h => exact absurd h (by omega)
  | 22, _, h => exact absurd h (by omega)
  | 23, _, h => exact absurd h (by omega)
  | 24, _, h => exact absurd h (by omega)
  | 25, _, _ => rfl
  | 26, _, _ => rfl
  | 27, _, _ => rfl
  | 28, _, _ => rfl
  | 29, _, _ => rfl
  | 30, _, _ => rfl
  | 31, _, _ => rfl
  | 32, _, _ => rfl
  | 33, _, _ => rfl
  | 34, _, _ => rfl
  | 35, _, _ => rfl
  | 36, _, _ => rfl
  | 37, _, _ => rfl
  | 38, _, _ => rfl
  | 39, _, _ => rfl
  | 40, _, _ => rfl
  | 41, _, _ => rfl
  | 42, _, _ => rfl
  | 43, _, _ => rfl
  | 44, _, _ => rfl
  | 45, _, _ => rfl
  | 46, _, _ => rfl
  | 47, _, _ => rfl
  | 48, _, _ => rfl
  | 49, _, _ => rfl
  | 50, _, _ => rfl
  | 51, _, _ => rfl
  | 52, _, _ => rfl
  | 53, _, _ => rfl
  | i + 54, h2, _ => exact absurd h2 (by omega)
theorem mkX_Tu {q i : Nat} {v : Int32} (h : q < 8) : ∀ c, c < 54 → up2 (mkX O N K T B R S H Z) (17 + q) i v c = mkX O N K (up2 T q i v) B R S H Z c := by
  intro c hc
  by_cases h1 : c = 17 + q
  · subst h1
    rw [mkX_T h]
    funext x
    show (if 17 + q = 17 + q then (if x = i then v else mkX O N K T B R S H Z (17 + q) x) else _) = if q = q then _ else _
    rw [if_pos rfl, if_pos rfl, mkX_T h]
  · by_cases h2 : 17 ≤ c ∧ c < 25
    · obtain ⟨q2, rfl⟩ : ∃ q2, c = 17 + q2 := ⟨c - 17, by omega⟩
      rw [mkX_T (by omega)]
      funext x
      show (if 17 + q2 = 17 + q then _ else mkX O N K T B R S H Z (17 + q2) x) = if q2 = q then _ else _
      rw [if_neg h1, if_neg (by omega), mkX_T (by omega)]
    · rw [mkX_To (by omega) hc]
      funext x
      exact if_neg h1
theorem em_XT {G : GE} {ad : Nat → Nat} : EM 54 8 ad (fun k => ad (17 + k)) (shX G ad) (shP G (fun k => ad (17 + k))) (mkX O N K T B R S H Z) T (fun u => mkX O N K u B R S H Z) := by
  refine ⟨fun k => 17 + k, fun k h => ⟨by show 17 + k < 54; omega, rfl, (mkX_T h).symm, ?_⟩, fun j k _ _ h => by have h : 17 + j = 17 + k := h; omega, fun u => ⟨fun k h => mkX_T h, fun i hi h => mkX_To ?_ hi⟩⟩
  · intro f
    match k, h with
    | 0, _ => rfl
    | 1, _ => rfl
    | 2, _ => rfl
    | 3, _ => rfl
    | 4, _ => rfl
    | 5, _ => rfl
    | 6, _ => rfl
    | 7, _ => rfl
  · by_cases h1 : i < 17
    · exact Or.inl h1
    · refine Or.inr (Nat.not_lt.mp fun h2 => h (i - 17) (by omega) (by show 17 + (i - 17) = i; omega))
theorem mkX_B {q : Nat} (h : q < 2) : mkX O N K T B R S H Z (25 + q) = B q := by
  unfold mkX
  rw [if_neg (by omega), if_neg (by omega), if_neg (by omega), if_neg (by omega), if_pos (by omega), Nat.add_sub_cancel_left]
theorem mkX_Bo {q : Nat} {u : WM} (h : q < 25 ∨ 27 ≤ q) (h2 : q < 54) : mkX O N K T u R S H Z q = mkX O N K T B R S H Z q := by
  match q, h2, h with
  | 0, _, _ => rfl
  | 1, _, _ => rfl
  | 2, _, _ => rfl
  | 3, _, _ => rfl
  | 4, _, _ => rfl
  | 5, _, _ => rfl
  | 6, _, _ => rfl
  | 7, _, _ => rfl
  | 8, _, _ => rfl
  | 9, _, _ => rfl
  | 10, _, _ => rfl
  | 11, _, _ => rfl
  | 12, _, _ => rfl
  | 13, _, _ => rfl
  | 14, _, _ => rfl
  | 15, _, _ => rfl
  | 16, _, _ => rfl
  | 17, _, _ => rfl
  | 18, _, _ => rfl
  | 19, _, _ => rfl
  | 20, _, _ => rfl
  | 21, _, _ => rfl
  | 22, _, _ => rfl
  | 23, _, _ => rfl
  | 24, _, _ => rfl
  | 25, _, h => exact absurd h (by omega)
  | 26, _, h => exact absurd h (by omega)
  | 27, _, _ => rfl
  | 28, _, _ => rfl
  | 29, _, _ => rfl
  | 30, _, _ => rfl
  | 31, _, _ => rfl
  | 32, _, _ => rfl
  | 33, _, _ => rfl
  | 34, _, _ => rfl
  | 35, _, _ => rfl
  | 36, _, _ => rfl
  | 37, _, _ => rfl
  | 38, _, _ => rfl
  | 39, _, _ => rfl
  | 40, _, _ => rfl
  | 41, _, _ => rfl
  | 42, _, _ => rfl
  | 43, _, _ => rfl
  | 44, _, _ => rfl
  | 45, _, _ => rfl
  | 46, _, _ => rfl
  | 47, _, _ => rfl
  | 48, _, _ => rfl
  | 49, _, _ => rfl
  | 50, _, _ => rfl
  | 51, _, _ => rfl
  | 52, _, _ => rfl
  | 53, _, _ => rfl
  | i + 54, h2, _ => exact absurd h2 (by omega)
theorem mkX_Bu {q i : Nat} {v : Int32} (h : q < 2) : ∀ c, c < 54 → up2 (mkX O N K T B R S H Z) (25 + q) i v c = mkX O N K T (up2 B q i v) R S H Z c := by
  intro c hc
  by_cases h1 : c = 25 + q
  · subst h1
    rw [mkX_B h]
    funext x
    show (if 25 + q = 25 + q then (if x = i then v else mkX O N K T B R S H Z (25 + q) x) else _) = if q = q then _ else _
    rw [if_pos rfl, if_pos rfl, mkX_B h]
  · by_cases h2 : 25 ≤ c ∧ c < 27
    · obtain ⟨q2, rfl⟩ : ∃ q2, c = 25 + q2 := ⟨c - 25, by omega⟩
      rw [mkX_B (by omega)]
      funext x
      show (if 25 + q2 = 25 + q then _ else mkX O N K T B R S H Z (25 + q2) x) = if q2 = q then _ else _
      rw [if_neg h1, if_neg (by omega), mkX_B (by omega)]
    · rw [mkX_Bo (by omega) hc]
      funext x
      exact if_neg h1
theorem em_XB {G : GE} {ad : Nat → Nat} : EM 54 2 ad (fun k => ad (25 + k)) (shX G ad) (shB G (fun k => ad (25 + k))) (mkX O N K T B R S H Z) B (fun u => mkX O N K T u R S H Z) := by
  refine ⟨fun k => 25 + k, fun k h => ⟨by show 25 + k < 54; omega, rfl, (mkX_B h).symm, ?_⟩, fun j k _ _ h => by have h : 25 + j = 25 + k := h; omega, fun u => ⟨fun k h => mkX_B h, fun i hi h => mkX_Bo ?_ hi⟩⟩
  · intro f
    match k, h with
    | 0, _ => rfl
    | 1, _ => rfl
  · by_cases h1 : i < 25
    · exact Or.inl h1
    · refine Or.inr (Nat.not_lt.mp fun h2 => h (i - 25) (by omega) (by show 25 + (i - 25) = i; omega))
theorem mkX_R {q : Nat} (h : q < 10) : mkX O N K T B R S H Z (28 + q) = R q := by
  unfold mkX
  rw [if_neg (by omega), if_neg (by omega), if_neg (by omega), if_neg (by omega), if_neg (by omega), if_neg (by omega), if_pos (by omega), Nat.add_sub_cancel_left]
theorem mkX_Ro {q : Nat} {u : WM} (h : q < 28 ∨ 38 ≤ q) (h2 : q < 54) : mkX O N K T B u S H Z q = mkX O N K T B R S H Z q := by
  match q, h2, h with
  | 0, _, _ => rfl
  | 1, _, _ => rfl
  | 2, _, _ => rfl
  | 3, _, _ => rfl
  | 4, _, _ => rfl
  | 5, _, _ => rfl
  | 6, _, _ => rfl
  | 7, _, _ => rfl
  | 8, _, _ => rfl
  | 9, _, _ => rfl
  | 10, _, _ => rfl
  | 11, _, _ => rfl
  | 12, _, _ => rfl
  | 13, _, _ => rfl
  | 14, _, _ => rfl
  | 15, _, _ => rfl
  | 16, _, _ => rfl
  | 17, _, _ => rfl
  | 18, _, _ => rfl
  | 19, _, _ => rfl
  | 20, _, _ => rfl
  | 21, _, _ => rfl
  | 22, _, _ => rfl
  | 23, _, _ => rfl
  | 24, _, _ => rfl
  | 25, _, _ => rfl
  | 26, _, _ => rfl
  | 27, _, _ => rfl
  | 28, _, h => exact absurd h (by omega)
  | 29, _, h => exact absurd h (by omega)
  | 30, _, h => exact absurd h (by omega)
  | 31, _, h => exact absurd h (by omega)
  | 32, _, h => exact absurd h (by omega)
  | 33, _, h => exact absurd h (by omega)
  | 34, _, h => exact absurd h (by omega)
  | 35, _, h => exact absurd h (by omega)
  | 36, _, h => exact absurd h (by omega)
  | 37, _, h => exact absurd h (by omega)
  | 38, _, _ => rfl
  | 39, _, _ => rfl
  | 40, _, _ => rfl
  | 41, _, _ => rfl
  | 42, _, _ => rfl
  | 43, _, _ => rfl
  | 44, _, _ => rfl
  | 45, _, _ => rfl
  | 46, _, _ => rfl
  | 47, _, _ => rfl
  | 48, _, _ => rfl
  | 49, _, _ => rfl
  | 50, _, _ => rfl
  | 51, _, _ => rfl
  | 52, _, _ => rfl
  | 53, _, _ => rfl
  | i + 54, h2, _ => exact absurd h2 (by omega)
theorem mkX_Ru {q i : Nat} {v : Int32} (h : q < 10) : ∀ c, c < 54 → up2 (mkX O N K T B R S H Z) (28 + q) i v c = mkX O N K T B (up2 R q i v) S H Z c := by
  intro c hc
  by_cases h1 : c = 28 + q
  · subst h1
    rw [mkX_R h]
    funext x
    show (if 28 + q = 28 + q then (if x = i then v else mkX O N K T B R S H Z (28 + q) x) else _) = if q = q then _ else _
    rw [if_pos rfl, if_pos rfl, mkX_R h]
  · by_cases h2 : 28 ≤ c ∧ c < 38
    · obtain ⟨q2, rfl⟩ : ∃ q2, c = 28 + q2 := ⟨c - 28, by omega⟩
      rw [mkX_R (by omega)]
      funext x
      show (if 28 + q2 = 28 + q then _ else mkX O N K T B R S H Z (28 + q2) x) = if q2 = q then _ else _
      rw [if_neg h1, if_neg (by omega), mkX_R (by omega)]
    · rw [mkX_Ro (by omega) hc]
      funext x
      exact if_neg h1
theorem mkX_S {q : Nat} (h : q < 8) : mkX O N K T B R S H Z (39 + q) = S q := by
  unfold mkX
  rw [if_neg (by omega), if_neg (by omega), if_neg (by omega), if_neg (by omega), if_neg (by omega), if_neg (by omega), if_neg (by omega), if_neg (by omega), if_pos (by omega), Nat.add_sub_cancel_left]
theorem mkX_So {q : Nat} {u : WM} (h : q < 39 ∨ 47 ≤ q) (h2 : q < 54) : mkX O N K T B R u H Z q = mkX O N K T B R S H Z q := by
  match q, h2, h with
  | 0, _, _ => rfl
  | 1, _, _ => rfl
  | 2, _, _ => rfl
  | 3, _, _ => rfl
  | 4, _, _ => rfl
  | 5, _, _ => rfl
  | 6, _, _ => rfl
  | 7, _, _ => rfl
  | 8, _, _ => rfl
  | 9, _, _ => rfl
  | 10, _, _ => rfl
  | 11, _, _ => rfl
  | 12, _, _ => rfl
  | 13, _, _ => rfl
  | 14, _, _ => rfl
  | 15, _, _ => rfl
  | 16, _, _ => rfl
  | 17, _, _ => rfl
  | 18, _, _ => rfl
  | 19, _, _ => rfl
  | 20, _, _ => rfl
  | 21, _, _ => rfl
  | 22, _, _ => rfl
  | 23, _, _ => rfl
  | 24, _, _ => rfl
  | 25, _, _ => rfl
  | 26, _, _ => rfl
  | 27, _, _ => rfl
  | 28, _, _ => rfl
  | 29, _, _ => rfl
  | 30, _, _ => rfl
  | 31, _, _ => rfl
  | 32, _, _ => rfl
  | 33, _, _ => rfl
  | 34, _, _ => rfl
  | 35, _, _ => rfl
  | 36, _, _ => rfl
  | 37, _, _ => rfl
  | 38, _, _ => rfl
  | 39, _, h => exact absurd h (by omega)
  | 40, _, h => exact absurd h (by omega)
  | 41, _, h => exact absurd h (by omega)
  | 42, _, h => exact absurd h (by omega)
  | 43, _, h => exact absurd h (by omega)
  | 44, _, h => exact absurd h (by omega)
  | 45, _, h => exact absurd h (by omega)
  | 46, _, h => exact absurd h (by omega)
  | 47, _, _ => rfl
  | 48, _, _ => rfl
  | 49, _, _ => rfl
  | 50, _, _ => rfl
  | 51, _, _ => rfl
  | 52, _, _ => rfl
  | 53, _, _ => rfl
  | i + 54, h2, _ => exact absurd h2 (by omega)
theorem mkX_Su {q i : Nat} {v : Int32} (h : q < 8) : ∀ c, c < 54 → up2 (mkX O N K T B R S H Z) (39 + q) i v c = mkX O N K T B R (up2 S q i v) H Z c := by
  intro c hc
  by_cases h1 : c = 39 + q
  · subst h1
    rw [mkX_S h]
    funext x
    show (if 39 + q = 39 + q then (if x = i then v else mkX O N K T B R S H Z (39 + q) x) else _) = if q = q then _ else _
    rw [if_pos rfl, if_pos rfl, mkX_S h]
  · by_cases h2 : 39 ≤ c ∧ c < 47
    · obtain ⟨q2, rfl⟩ : ∃ q2, c = 39 + q2 := ⟨c - 39, by omega⟩
      rw [mkX_S (by omega)]
      funext x
      show (if 39 + q2 = 39 + q then _ else mkX O N K T B R S H Z (39 + q2) x) = if q2 = q then _ else _
      rw [if_neg h1, if_neg (by omega), mkX_S (by omega)]
    · rw [mkX_So (by omega) hc]
      funext x
      exact if_neg h1
theorem mkX_H {q : Nat} (h : q < 4) : mkX O N K T B R S H Z (48 + q) = H q := by
  unfold mkX
  rw [if_neg (by omega), if_neg (by omega), if_neg (by omega), if_neg (by omega), if_neg (by omega), if_neg (by omega), if_neg (by omega), if_neg (by omega), if_neg (by omega), if_neg (by omega), if_pos (by omega), Nat.add_sub_cancel_left]
theorem mkX_Ho {q : Nat} {u : WM} (h : q < 48 ∨ 52 ≤ q) (h2 : q < 54) : mkX O N K T B R S u Z q = mkX O N K T B R S H Z q := by
  match q, h2, h with
  | 0, _, _ => rfl
  | 1, _, _ => rfl
  | 2, _, _ => rfl
  | 3, _, _ => rfl
  | 4, _, _ => rfl
  | 5, _, _ => rfl
  | 6, _, _ => rfl
  | 7, _, _ => rfl
  | 8, _, _ => rfl
  | 9, _, _ => rfl
  | 10, _, _ => rfl
  | 11, _, _ => rfl
  | 12, _, _ => rfl
  | 13, _, _ => rfl
  | 14, _, _ => rfl
  | 15, _, _ => rfl
  | 16, _, _ => rfl
  | 17, _, _ => rfl
  | 18, _, _ => rfl
  | 19, _, _ => rfl
  | 20, _, _ => rfl
  | 21, _, _ => rfl
  | 22, _, _ => rfl
  | 23, _, _ => rfl
  | 24, _, _ => rfl
  | 25, _, _ => rfl
  | 26, _, _ => rfl
  | 27, _, _ => rfl
  | 28, _, _ => rfl
  | 29, _, _ => rfl
  | 30, _, _ => rfl
  | 31, _, _ => rfl
  | 32, _, _ => rfl
  | 33, _, _ => rfl
  | 34, _, _ => rfl
  | 35, _, _ => rfl
  | 36, _, _ => rfl
  | 37, _, _ => rfl
  | 38, _, _ => rfl
  | 39, _, _ => rfl
  | 40, _, _ => rfl
  | 41, _, _ => rfl
  | 42, _, _ => rfl
  | 43, _, _ => rfl
  | 44, _, _ => rfl
  | 45, _, _ => rfl
  | 46, _, _ => rfl
  | 47, _, _ => rfl
  | 48, _, h => exact absurd h (by omega)
  | 49, _, h => exact absurd h (by omega)
  | 50, _, h => exact absurd h (by omega)
  | 51, _, h => exact absurd h (by omega)
  | 52, _, _ => rfl
  | 53, _, _ => rfl
  | i + 54, h2, _ => exact absurd h2 (by omega)
theorem mkX_Hu {q i : Nat} {v : Int32} (h : q < 4) : ∀ c, c < 54 → up2 (mkX O N K T B R S H Z) (48 + q) i v c = mkX O N K T B R S (up2 H q i v) Z c := by
  intro c hc
  by_cases h1 : c = 48 + q
  · subst h1
    rw [mkX_H h]
    funext x
    show (if 48 + q = 48 + q then (if x = i then v else mkX O N K T B R S H Z (48 + q) x) else _) = if q = q then _ else _
    rw [if_pos rfl, if_pos rfl, mkX_H h]
  · by_cases h2 : 48 ≤ c ∧ c < 52
    · obtain ⟨q2, rfl⟩ : ∃ q2, c = 48 + q2 := ⟨c - 48, by omega⟩
      rw [mkX_H (by omega)]
      funext x
      show (if 48 + q2 = 48 + q then _ else mkX O N K T B R S H Z (48 + q2) x) = if q2 = q then _ else _
      rw [if_neg h1, if_neg (by omega), mkX_H (by omega)]
    · rw [mkX_Ho (by omega) hc]
      funext x
      exact if_neg h1
theorem mkX_Z {q : Nat} (h : q < 2) : mkX O N K T B R S H Z (52 + q) = Z q := by
  unfold mkX
  rw [if_neg (by omega), if_neg (by omega), if_neg (by omega), if_neg (by omega), if_neg (by omega), if_neg (by omega), if_neg (by omega), if_neg (by omega), if_neg (by omega), if_neg (by omega), if_neg (by omega), Nat.add_sub_cancel_left]
theorem mkX_Zo {q : Nat} {u : WM} (h : q < 52 ∨ 54 ≤ q) (h2 : q < 54) : mkX O N K T B R S H u q = mkX O N K T B R S H Z q := by
  match q, h2, h with
  | 0, _, _ => rfl
  | 1, _, _ => rfl
  | 2, _, _ => rfl
  | 3, _, _ => rfl
  | 4, _, _ => rfl
  | 5, _, _ => rfl
  | 6, _, _ => rfl
  | 7, _, _ => rfl
  | 8, _, _ => rfl
  | 9, _, _ => rfl
  | 10, _, _ => rfl
  | 11, _, _ => rfl
  | 12, _, _ => rfl
  | 13, _, _ => rfl
  | 14, _, _ => rfl
  | 15, _, _ => rfl
  | 16, _, _ => rfl
  | 17, _, _ => rfl
  | 18, _, _ => rfl
  | 19, _, _ => rfl
  | 20, _, _ => rfl
  | 21, _, _ => rfl
  | 22, _, _ => rfl
  | 23, _, _ => rfl
  | 24, _, _ => rfl
  | 25, _, _ => rfl
  | 26, _, _ => rfl
  | 27, _, _ => rfl
  | 28, _, _ => rfl
  | 29, _, _ => rfl
  | 30, _, _ => rfl
  | 31, _, _ => rfl
  | 32, _, _ => rfl
  | 33, _, _ => rfl
  | 34, _, _ => rfl
  | 35, _, _ => rfl
  | 36, _, _ => rfl
  | 37, _, _ => rfl
  | 38, _, _ => rfl
  | 39, _, _ => rfl
  | 40, _, _ => rfl
  | 41, _, _ => rfl
  | 42, _, _ => rfl
  | 43, _, _ => rfl
  | 44, _, _ => rfl
  | 45, _, _ => rfl
  | 46, _, _ => rfl
  | 47, _, _ => rfl
  | 48, _, _ => rfl
  | 49, _, _ => rfl
  | 50, _, _ => rfl
  | 51, _, _ => rfl
  | 52, _, h => exact absurd h (by omega)
  | 53, _, h => exact absurd h (by omega)
  | i + 54, h2, _ => exact absurd h2 (by omega)
theorem mkX_Zu {q i : Nat} {v : Int32} (h : q < 2) : ∀ c, c < 54 → up2 (mkX O N K T B R S H Z) (52 + q) i v c = mkX O N K T B R S H (up2 Z q i v) c := by
  intro c hc
  by_cases h1 : c = 52 + q
  · subst h1
    rw [mkX_Z h]
    funext x
    show (if 52 + q = 52 + q then (if x = i then v else mkX O N K T B R S H Z (52 + q) x) else _) = if q = q then _ else _
    rw [if_pos rfl, if_pos rfl, mkX_Z h]
  · by_cases h2 : 52 ≤ c ∧ c < 54
    · obtain ⟨q2, rfl⟩ : ∃ q2, c = 52 + q2 := ⟨c - 52, by omega⟩
      rw [mkX_Z (by omega)]
      funext x
      show (if 52 + q2 = 52 + q then _ else mkX O N K T B R S H Z (52 + q2) x) = if q2 = q then _ else _
      rw [if_neg h1, if_neg (by omega), mkX_Z (by omega)]
    · rw [mkX_Zo (by omega) hc]
      funext x
      exact if_neg h1
theorem em_XZ {G : GE} {ad : Nat → Nat} : EM 54 2 ad (fun k => ad (52 + k)) (shX G ad) (shD G (fun k => ad (52 + k))) (mkX O N K T B R S H Z) Z (fun u => mkX O N K T B R S H u) := by
  refine ⟨fun k => 52 + k, fun k h => ⟨by show 52 + k < 54; omega, rfl, (mkX_Z h).symm, ?_⟩, fun j k _ _ h => by have h : 52 + j = 52 + k := h; omega, fun u => ⟨fun k h => mkX_Z h, fun i hi h => mkX_Zo ?_ hi⟩⟩
  · intro f
    match k, h with
    | 0, _ => rfl
    | 1, _ => rfl
  · by_cases h1 : i < 52
    · exact Or.inl h1
    · refine Or.inr (Nat.not_lt.mp fun h2 => h (i - 52) (by omega) (by show 52 + (i - 52) = i; omega))
theorem mkX_Ou {i : Nat} {v : Int32} : ∀ c, c < 54 → up2 (mkX O N K T B R S H Z) 0 i v c = mkX (fun j => if j = i then v else O j) N K T B R S H Z c := by
  intro c hc
  match c, hc with
  | 0, _ => rfl
  | 1, _ => rfl
  | 2, _ => rfl
  | 3, _ => rfl
  | 4, _ => rfl
  | 5, _ => rfl
  | 6, _ => rfl
  | 7, _ => rfl
  | 8, _ => rfl
  | 9, _ => rfl
  | 10, _ => rfl
  | 11, _ => rfl
  | 12, _ => rfl
  | 13, _ => rfl
  | 14, _ => rfl
  | 15, _ => rfl
  | 16, _ => rfl
  | 17, _ => rfl
  | 18, _ => rfl
  | 19, _ => rfl
  | 20, _ => rfl
  | 21, _ => rfl
  | 22, _ => rfl
  | 23, _ => rfl
  | 24, _ => rfl
  | 25, _ => rfl
  | 26, _ => rfl
  | 27, _ => rfl
  | 28, _ => rfl
  | 29, _ => rfl
  | 30, _ => rfl
  | 31, _ => rfl
  | 32, _ => rfl
  | 33, _ => rfl
  | 34, _ => rfl
  | 35, _ => rfl
  | 36, _ => rfl
  | 37, _ => rfl
  | 38, _ => rfl
  | 39, _ => rfl
  | 40, _ => rfl
  | 41, _ => rfl
  | 42, _ => rfl
  | 43, _ => rfl
  | 44, _ => rfl
  | 45, _ => rfl
  | 46, _ => rfl
  | 47, _ => rfl
  | 48, _ => rfl
  | 49, _ => rfl
  | 50, _ => rfl
  | 51, _ => rfl
  | 52, _ => rfl
  | 53, _ => rfl
  | j + 54, hj => exact absurd hj (by omega)
theorem em_XTB {G : GE} {ad : Nat → Nat} : EM 54 10 ad (fun k => ad (17 + k)) (shX G ad) (shT G (fun k => ad (17 + k))) (mkX O N K T B R S H Z) (mkT T B) (fun u => mkX O N K u (fun c => u (8 + c)) R S H Z) := by
  refine ⟨fun k => 17 + k, fun k h => ⟨by show 17 + k < 54; omega, rfl, ?_, ?_⟩, fun j k _ _ h => by have h : 17 + j = 17 + k := h; omega, fun u => ⟨fun k h => ?_, fun i hi h => ?_⟩⟩
  · match k, h with
    | 0, _ => rfl
    | 1, _ => rfl
    | 2, _ => rfl
    | 3, _ => rfl
    | 4, _ => rfl
    | 5, _ => rfl
    | 6, _ => rfl
    | 7, _ => rfl
    | 8, _ => rfl
    | 9, _ => rfl
  · intro f
    match k, h with
    | 0, _ => rfl
    | 1, _ => rfl
    | 2, _ => rfl
    | 3, _ => rfl
    | 4, _ => rfl
    | 5, _ => rfl
    | 6, _ => rfl
    | 7, _ => rfl
    | 8, _ => rfl
    | 9, _ => rfl
  · match k, h with
    | 0, _ => rfl
    | 1, _ => rfl
    | 2, _ => rfl
    | 3, _ => rfl
    | 4, _ => rfl
    | 5, _ => rfl
    | 6, _ => rfl
    | 7, _ => rfl
    | 8, _ => rfl
    | 9, _ => rfl
  · have h1 : i < 17 ∨ 27 ≤ i := by
      by_cases h1 : i < 17
      · exact Or.inl h1
      · exact Or.inr (Nat.not_lt.mp fun h2 => h (i - 17) (by omega) (by show 17 + (i - 17) = i; omega))
    show mkX O N K u (fun c => u (8 + c)) R S H Z i = mkX O N K T B R S H Z i
    match i, hi, h1 with
    | 0, _, _ => rfl
    | 1, _, _ => rfl
    | 2, _, _ => rfl
    | 3, _, _ => rfl
    | 4, _, _ => rfl
    | 5, _, _ => rfl
    | 6, _, _ => rfl
    | 7, _, _ => rfl
    | 8, _, _ => rfl
    | 9, _, _ => rfl
    | 10, _, _ => rfl
    | 11, _, _ => rfl
    | 12, _, _ => rfl
    | 13, _, _ => rfl
    | 14, _, _ => rfl
    | 15, _, _ => rfl
    | 16, _, _ => rfl
    | 17, _, h1 => exact absurd h1 (by omega)
    | 18, _, h1 => exact absurd h1 (by omega)
    | 19, _, h1 => exact absurd h1 (by omega)
    | 20, _, h1 => exact absurd h1 (by omega)
    | 21, _, h1 => exact absurd h1 (by omega)
    | 22, _, h1 => exact absurd h1 (by omega)
    | 23, _, h1 => exact absurd h1 (by omega)
    | 24, _, h1 => exact absurd h1 (by omega)
    | 25, _, h1 => exact absurd h1 (by omega)
    | 26, _, h1 => exact absurd h1 (by omega)
    | 27, _, _ => rfl
    | 28, _, _ => rfl
    | 29, _, _ => rfl
    | 30, _, _ => rfl
    | 31, _, _ => rfl
    | 32, _, _ => rfl
    | 33, _, _ => rfl
    | 34, _, _ => rfl
    | 35, _, _ => rfl
    | 36, _, _ => rfl
    | 37, _, _ => rfl
    | 38, _, _ => rfl
    | 39, _, _ => rfl
    | 40, _, _ => rfl
    | 41, _, _ => rfl
    | 42, _, _ => rfl
    | 43, _, _ => rfl
    | 44, _, _ => rfl
    | 45, _, _ => rfl
    | 46, _, _ => rfl
    | 47, _, _ => rfl
    | 48, _, _ => rfl
    | 49, _, _ => rfl
    | 50, _, _ => rfl
    | 51, _, _ => rfl
    | 52, _, _ => rfl
    | 53, _, _ => rfl
    | j + 54, hj, _ => exact absurd hj (by omega)
theorem mkX_TB {P D : WM} : ∀ c, c < 54 → mkX O N K (mkT P D) (fun c => mkT P D (8 + c)) R S H Z c = mkX O N K P D R S H Z c := by
  intro c hc
  match c, hc with
  | 0, _ => rfl
  | 1, _ => rfl
  | 2, _ => rfl
  | 3, _ => rfl
  | 4, _ => rfl
  | 5, _ => rfl
  | 6, _ => rfl
  | 7, _ => rfl
  | 8, _ => rfl
  | 9, _ => rfl
  | 10, _ => rfl
  | 11, _ => rfl
  | 12, _ => rfl
  | 13, _ => rfl
  | 14, _ => rfl
  | 15, _ => rfl
  | 16, _ => rfl
  | 17, _ => rfl
  | 18, _ => rfl
  | 19, _ => rfl
  | 20, _ => rfl
  | 21, _ => rfl
  | 22, _ => rfl
  | 23, _ => rfl
  | 24, _ => rfl
  | 25, _ => rfl
  | 26, _ => rfl
  | 27, _ => rfl
  | 28, _ => rfl
  | 29, _ => rfl
  | 30, _ => rfl
  | 31, _ => rfl
  | 32, _ => rfl
  | 33, _ => rfl
  | 34, _ => rfl
  | 35, _ => rfl
  | 36, _ => rfl
  | 37, _ => rfl
  | 38, _ => rfl
  | 39, _ => rfl
  | 40, _ => rfl
  | 41, _ => rfl
  | 42, _ => rfl
  | 43, _ => rfl
  | 44, _ => rfl
  | 45, _ => rfl
  | 46, _ => rfl
  | 47, _ => rfl
  | 48, _ => rfl
  | 49, _ => rfl
  | 50, _ => rfl
  | 51, _ => rfl
  | 52, _ => rfl
  | 53, _ => rfl
  | j + 54, hj => exact absurd hj (by omega)
def mkPP (P U : WM) : WM := fun c => if c < 8 then P c else U (c - 8)
theorem cp_lo {P U : WM} {c : Nat} (h : c < 8) : cpP (mkPP P U) c = U c := by
  unfold cpP mkPP
  rw [if_pos h, if_neg (by omega), Nat.add_sub_cancel_left]
theorem cp_hi {P U : WM} {c : Nat} (h : c < 8) : cpP (mkPP P U) (8 + c) = U c := by
  unfold cpP mkPP
  rw [if_neg (by omega), if_neg (by omega), Nat.add_sub_cancel_left]
theorem em_XTN {G : GE} {ad : Nat → Nat} : EM 54 16 ad (fun k => ad (io2 17 8 1 k)) (shX G ad) (shPP G (fun k => ad (io2 17 8 1 k))) (mkX O N K T B R S H Z) (mkPP T N) (fun u => mkX O (fun c => u (8 + c)) K u B R S H Z) := by
  refine ⟨io2 17 8 1, fun k h => ⟨?_, rfl, ?_, ?_⟩, fun j k h1 h2 h => ?_, fun u => ⟨fun k h => ?_, fun i hi h => ?_⟩⟩
  · unfold io2
    split <;> omega
  · match k, h with
    | 0, _ => rfl
    | 1, _ => rfl
    | 2, _ => rfl
    | 3, _ => rfl
    | 4, _ => rfl
    | 5, _ => rfl
    | 6, _ => rfl
    | 7, _ => rfl
    | 8, _ => rfl
    | 9, _ => rfl
    | 10, _ => rfl
    | 11, _ => rfl
    | 12, _ => rfl
    | 13, _ => rfl
    | 14, _ => rfl
    | 15, _ => rfl
    | j + 16, hj => exact absurd hj (by omega)
  · intro f
    match k, h with
    | 0, _ => rfl
    | 1, _ => rfl
    | 2, _ => rfl
    | 3, _ => rfl
    | 4, _ => rfl
    | 5, _ => rfl
    | 6, _ => rfl
    | 7, _ => rfl
    | 8, _ => rfl
    | 9, _ => rfl
    | 10, _ => rfl
    | 11, _ => rfl
    | 12, _ => rfl
    | 13, _ => rfl
    | 14, _ => rfl
    | 15, _ => rfl
    | j + 16, hj => exact absurd hj (by omega)
  · unfold io2 at h
    split at h <;> split at h <;> omega
  · match k, h with
    | 0, _ => rfl
    | 1, _ => rfl
    | 2, _ => rfl
    | 3, _ => rfl
    | 4, _ => rfl
    | 5, _ => rfl
    | 6, _ => rfl
    | 7, _ => rfl
    | 8, _ => rfl
    | 9, _ => rfl
    | 10, _ => rfl
    | 11, _ => rfl
    | 12, _ => rfl
    | 13, _ => rfl
    | 14, _ => rfl
    | 15, _ => rfl
    | j + 16, hj => exact absurd hj (by omega)
  · have h1 : ¬ (17 ≤ i ∧ i < 25) := fun q => h (i - 17) (by omega) (by unfold io2; rw [if_pos (by omega)]; omega)
    have h2 : ¬ (1 ≤ i ∧ i < 9) := fun q => h (i - 1 + 8) (by omega) (by unfold io2; rw [if_neg (by omega)]; omega)
    show mkX O (fun c => u (8 + c)) K u B R S H Z i = mkX O N K T B R S H Z i
    match i, hi, h1, h2 with
    | 0, _, _, _ => rfl
    | 1, _, h1, h2 => first | exact absurd (by omega) h1 | exact absurd (by omega) h2
    | 2, _, h1, h2 => first | exact absurd (by omega) h1 | exact absurd (by omega) h2
    | 3, _, h1, h2 => first | exact absurd (by omega) h1 | exact absurd (by omega) h2
    | 4, _, h1, h2 => first | exact absurd (by omega) h1 | exact absurd (by omega) h2
    | 5, _, h1, h2 => first | exact absurd (by omega) h1 | exact absurd (by omega) h2
    | 6, _, h1, h2 => first | exact absurd (by omega) h1 | exact absurd (by omega) h2
    | 7, _, h1, h2 => first | exact absurd (by omega) h1 | exact absurd (by omega) h2
    | 8, _, h1, h2 => first | exact absurd (by omega) h1 | exact absurd (by omega) h2
    | 9, _, _, _ => rfl
    | 10, _, _, _ => rfl
    | 11, _, _, _ => rfl
    | 12, _, _, _ => rfl
    | 13, _, _, _ => rfl
    | 14, _, _, _ => rfl
    | 15, _, _, _ => rfl
    | 16, _, _, _ => rfl
    | 17, _, h1, h2 => first | exact absurd (by omega) h1 | exact absurd (by omega) h2
    | 18, _, h1, h2 => first | exact absurd (by omega) h1 | exact absurd (by omega) h2
    | 19, _, h1, h2 => first | exact absurd (by omega) h1 | exact absurd (by omega) h2
    | 20, _, h1, h2 => first | exact absurd (by omega) h1 | exact absurd (by omega) h2
    | 21, _, h1, h2 => first | exact absurd (by omega) h1 | exact absurd (by omega) h2
    | 22, _, h1, h2 => first | exact absurd (by omega) h1 | exact absurd (by omega) h2
    | 23, _, h1, h2 => first | exact absurd (by omega) h1 | exact absurd (by omega) h2
    | 24, _, h1, h2 => first | exact absurd (by omega) h1 | exact absurd (by omega) h2
    | 25, _, _, _ => rfl
    | 26, _, _, _ => rfl
    | 27, _, _, _ => rfl
    | 28, _, _, _ => rfl
    | 29, _, _, _ => rfl
    | 30, _, _, _ => rfl
    | 31, _, _, _ => rfl
    | 32, _, _, _ => rfl
    | 33, _, _, _ => rfl
    | 34, _, _, _ => rfl
    | 35, _, _, _ => rfl
    | 36, _, _, _ => rfl
    | 37, _, _, _ => rfl
    | 38, _, _, _ => rfl
    | 39, _, _, _ => rfl
    | 40, _, _, _ => rfl
    | 41, _, _, _ => rfl
    | 42, _, _, _ => rfl
    | 43, _, _, _ => rfl
    | 44, _, _, _ => rfl
    | 45, _, _, _ => rfl
    | 46, _, _, _ => rfl
    | 47, _, _, _ => rfl
    | 48, _, _, _ => rfl
    | 49, _, _, _ => rfl
    | 50, _, _, _ => rfl
    | 51, _, _, _ => rfl
    | 52, _, _, _ => rfl
    | 53, _, _, _ => rfl
    | j + 54, hj, _, _ => exact absurd hj (by omega)
theorem mkX_TN : ∀ c, c < 54 → mkX O (fun c => cpP (mkPP T N) (8 + c)) K (cpP (mkPP T N)) B R S H Z c = mkX O N K N B R S H Z c := by
  intro c hc
  match c, hc with
  | 0, _ => rfl
  | 1, _ => rfl
  | 2, _ => rfl
  | 3, _ => rfl
  | 4, _ => rfl
  | 5, _ => rfl
  | 6, _ => rfl
  | 7, _ => rfl
  | 8, _ => rfl
  | 9, _ => rfl
  | 10, _ => rfl
  | 11, _ => rfl
  | 12, _ => rfl
  | 13, _ => rfl
  | 14, _ => rfl
  | 15, _ => rfl
  | 16, _ => rfl
  | 17, _ => rfl
  | 18, _ => rfl
  | 19, _ => rfl
  | 20, _ => rfl
  | 21, _ => rfl
  | 22, _ => rfl
  | 23, _ => rfl
  | 24, _ => rfl
  | 25, _ => rfl
  | 26, _ => rfl
  | 27, _ => rfl
  | 28, _ => rfl
  | 29, _ => rfl
  | 30, _ => rfl
  | 31, _ => rfl
  | 32, _ => rfl
  | 33, _ => rfl
  | 34, _ => rfl
  | 35, _ => rfl
  | 36, _ => rfl
  | 37, _ => rfl
  | 38, _ => rfl
  | 39, _ => rfl
  | 40, _ => rfl
  | 41, _ => rfl
  | 42, _ => rfl
  | 43, _ => rfl
  | 44, _ => rfl
  | 45, _ => rfl
  | 46, _ => rfl
  | 47, _ => rfl
  | 48, _ => rfl
  | 49, _ => rfl
  | 50, _ => rfl
  | 51, _ => rfl
  | 52, _ => rfl
  | 53, _ => rfl
  | j + 54, hj => exact absurd hj (by omega)
theorem em_XNT {G : GE} {ad : Nat → Nat} : EM 54 16 ad (fun k => ad (io2 1 8 17 k)) (shX G ad) (shPP G (fun k => ad (io2 1 8 17 k))) (mkX O N K T B R S H Z) (mkPP N T) (fun u => mkX O u K (fun c => u (8 + c)) B R S H Z) := by
  refine ⟨io2 1 8 17, fun k h => ⟨?_, rfl, ?_, ?_⟩, fun j k h1 h2 h => ?_, fun u => ⟨fun k h => ?_, fun i hi h => ?_⟩⟩
  · unfold io2
    split <;> omega
  · match k, h with
    | 0, _ => rfl
    | 1, _ => rfl
    | 2, _ => rfl
    | 3, _ => rfl
    | 4, _ => rfl
    | 5, _ => rfl
    | 6, _ => rfl
    | 7, _ => rfl
    | 8, _ => rfl
    | 9, _ => rfl
    | 10, _ => rfl
    | 11, _ => rfl
    | 12, _ => rfl
    | 13, _ => rfl
    | 14, _ => rfl
    | 15, _ => rfl
    | j + 16, hj => exact absurd hj (by omega)
  · intro f
    match k, h with
    | 0, _ => rfl
    | 1, _ => rfl
    | 2, _ => rfl
    | 3, _ => rfl
    | 4, _ => rfl
    | 5, _ => rfl
    | 6, _ => rfl
    | 7, _ => rfl
    | 8, _ => rfl
    | 9, _ => rfl
    | 10, _ => rfl
    | 11, _ => rfl
    | 12, _ => rfl
    | 13, _ => rfl
    | 14, _ => rfl
    | 15, _ => rfl
    | j + 16, hj => exact absurd hj (by omega)
  · unfold io2 at h
    split at h <;> split at h <;> omega
  · match k, h with
    | 0, _ => rfl
    | 1, _ => rfl
    | 2, _ => rfl
    | 3, _ => rfl
    | 4, _ => rfl
    | 5, _ => rfl
    | 6, _ => rfl
    | 7, _ => rfl
    | 8, _ => rfl
    | 9, _ => rfl
    | 10, _ => rfl
    | 11, _ => rfl
    | 12, _ => rfl
    | 13, _ => rfl
    | 14, _ => rfl
    | 15, _ => rfl
    | j + 16, hj => exact absurd hj (by omega)
  · have h1 : ¬ (1 ≤ i ∧ i < 9) := fun q => h (i - 1) (by omega) (by unfold io2; rw [if_pos (by omega)]; omega)
    have h2 : ¬ (17 ≤ i ∧ i < 25) := fun q => h (i - 17 + 8) (by omega) (by unfold io2; rw [if_neg (by omega)]; omega)
    show mkX O u K (fun c => u (8 + c)) B R S H Z i = mkX O N K T B R S H Z i
    match i, hi, h1, h2 with
    | 0, _, _, _ => rfl
    | 1, _, h1, h2 => first | exact absurd (by omega) h1 | exact absurd (by omega) h2
    | 2, _, h1, h2 => first | exact absurd (by omega) h1 | exact absurd (by omega) h2
    | 3, _, h1, h2 => first | exact absurd (by omega) h1 | exact absurd (by omega) h2
    | 4, _, h1, h2 => first | exact absurd (by omega) h1 | exact absurd (by omega) h2
    | 5, _, h1, h2 => first | exact absurd (by omega) h1 | exact absurd (by omega) h2
    | 6, _, h1, h2 => first | exact absurd (by omega) h1 | exact absurd (by omega) h2
    | 7, _, h1, h2 => first | exact absurd (by omega) h1 | exact absurd (by omega) h2
    | 8, _, h1, h2 => first | exact absurd (by omega) h1 | exact absurd (by omega) h2
    | 9, _, _, _ => rfl
    | 10, _, _, _ => rfl
    | 11, _, _, _ => rfl
    | 12, _, _, _ => rfl
    | 13, _, _, _ => rfl
    | 14, _, _, _ => rfl
    | 15, _, _, _ => rfl
    | 16, _, _, _ => rfl
    | 17, _, h1, h2 => first | exact absurd (by omega) h1 | exact absurd (by omega) h2
    | 18, _, h1, h2 => first | exact absurd (by omega) h1 | exact absurd (by omega) h2
    | 19, _, h1, h2 => first | exact absurd (by omega) h1 | exact absurd (by omega) h2
    | 20, _, h1, h2 => first | exact absurd (by omega) h1 | exact absurd (by omega) h2
    | 21, _, h1, h2 => first | exact absurd (by omega) h1 | exact absurd (by omega) h2
    | 22, _, h1, h2 => first | exact absurd (by omega) h1 | exact absurd (by omega) h2
    | 23, _, h1, h2 => first | exact absurd (by omega) h1 | exact absurd (by omega) h2
    | 24, _, h1, h2 => first | exact absurd (by omega) h1 | exact absurd (by omega) h2
    | 25, _, _, _ => rfl
    | 26, _, _, _ => rfl
    | 27, _, _, _ => rfl
    | 28, _, _, _ => rfl
    | 29, _, _, _ => rfl
    | 30, _, _, _ => rfl
    | 31, _, _, _ => rfl
    | 32, _, _, _ => rfl
    | 33, _, _, _ => rfl
    | 34, _, _, _ => rfl
    | 35, _, _, _ => rfl
    | 36, _, _, _ => rfl
    | 37, _, _, _ => rfl
    | 38, _, _, _ => rfl
    | 39, _, _, _ => rfl
    | 40, _, _, _ => rfl
    | 41, _, _, _ => rfl
    | 42, _, _, _ => rfl
    | 43, _, _, _ => rfl
    | 44, _, _, _ => rfl
    | 45, _, _, _ => rfl
    | 46, _, _, _ => rfl
    | 47, _, _, _ => rfl
    | 48, _, _, _ => rfl
    | 49, _, _, _ => rfl
    | 50, _, _, _ => rfl
    | 51, _, _, _ => rfl
    | 52, _, _, _ => rfl
    | 53, _, _, _ => rfl
    | j + 54, hj, _, _ => exact absurd hj (by omega)
theorem mkX_NT : ∀ c, c < 54 → mkX O (cpP (mkPP N T)) K (fun c => cpP (mkPP N T) (8 + c)) B R S H Z c = mkX O T K T B R S H Z c := by
  intro c hc
  match c, hc with
  | 0, _ => rfl
  | 1, _ => rfl
  | 2, _ => rfl
  | 3, _ => rfl
  | 4, _ => rfl
  | 5, _ => rfl
  | 6, _ => rfl
  | 7, _ => rfl
  | 8, _ => rfl
  | 9, _ => rfl
  | 10, _ => rfl
  | 11, _ => rfl
  | 12, _ => rfl
  | 13, _ => rfl
  | 14, _ => rfl
  | 15, _ => rfl
  | 16, _ => rfl
  | 17, _ => rfl
  | 18, _ => rfl
  | 19, _ => rfl
  | 20, _ => rfl
  | 21, _ => rfl
  | 22, _ => rfl
  | 23, _ => rfl
  | 24, _ => rfl
  | 25, _ => rfl
  | 26, _ => rfl
  | 27, _ => rfl
  | 28, _ => rfl
  | 29, _ => rfl
  | 30, _ => rfl
  | 31, _ => rfl
  | 32, _ => rfl
  | 33, _ => rfl
  | 34, _ => rfl
  | 35, _ => rfl
  | 36, _ => rfl
  | 37, _ => rfl
  | 38, _ => rfl
  | 39, _ => rfl
  | 40, _ => rfl
  | 41, _ => rfl
  | 42, _ => rfl
  | 43, _ => rfl
  | 44, _ => rfl
  | 45, _ => rfl
  | 46, _ => rfl
  | 47, _ => rfl
  | 48, _ => rfl
  | 49, _ => rfl
  | 50, _ => rfl
  | 51, _ => rfl
  | 52, _ => rfl
  | 53, _ => rfl
  | j + 54, hj => exact absurd hj (by omega)
theorem em_XKN {G : GE} {ad : Nat → Nat} : EM 54 16 ad (fun k => ad (io2 9 8 1 k)) (shX G ad) (shPP G (fun k => ad (io2 9 8 1 k))) (mkX O N K T B R S H Z) (mkPP K N) (fun u => mkX O (fun c => u (8 + c)) u T B R S H Z) := by
  refine ⟨io2 9 8 1, fun k h => ⟨?_, rfl, ?_, ?_⟩, fun j k h1 h2 h => ?_, fun u => ⟨fun k h => ?_, fun i hi h => ?_⟩⟩
  · unfold io2
    split <;> omega
  · match k, h with
    | 0, _ => rfl
    | 1, _ => rfl
    | 2, _ => rfl
    | 3, _ => rfl
    | 4, _ => rfl
    | 5, _ => rfl
    | 6, _ => rfl
    | 7, _ => rfl
    | 8, _ => rfl
    | 9, _ => rfl
    | 10, _ => rfl
    | 11, _ => rfl
    | 12, _ => rfl
    | 13, _ => rfl
    | 14, _ => rfl
    | 15, _ => rfl
    | j + 16, hj => exact absurd hj (by omega)
  · intro f
    match k, h with
    | 0, _ => rfl
    | 1, _ => rfl
    | 2, _ => rfl
    | 3, _ => rfl
    | 4, _ => rfl
    | 5, _ => rfl
    | 6, _ => rfl
    | 7, _ => rfl
    | 8, _ => rfl
    | 9, _ => rfl
    | 10, _ => rfl
    | 11, _ => rfl
    | 12, _ => rfl
    | 13, _ => rfl
    | 14, _ => rfl
    | 15, _ => rfl
    | j + 16, hj => exact absurd hj (by omega)
  · unfold io2 at h
    split at h <;> split at h <;> omega
  · match k, h with
    | 0, _ => rfl
    | 1, _ => rfl
    | 2, _ => rfl
    | 3, _ => rfl
    | 4, _ => rfl
    | 5, _ => rfl
    | 6, _ => rfl
    | 7, _ => rfl
    | 8, _ => rfl
    | 9, _ => rfl
    | 10, _ => rfl
    | 11, _ => rfl
    | 12, _ => rfl
    | 13, _ => rfl
    | 14, _ => rfl
    | 15, _ => rfl
    | j + 16, hj => exact absurd hj (by omega)
  · have h1 : ¬ (9 ≤ i ∧ i < 17) := fun q => h (i - 9) (by omega) (by unfold io2; rw [if_pos (by omega)]; omega)
    have h2 : ¬ (1 ≤ i ∧ i < 9) := fun q => h (i - 1 + 8) (by omega) (by unfold io2; rw [if_neg (by omega)]; omega)
    show mkX O (fun c => u (8 + c)) u T B R S H Z i = mkX O N K T B R S H Z i
    match i, hi, h1, h2 with
    | 0, _, _, _ => rfl
    | 1, _, h1, h2 => first | exact absurd (by omega) h1 | exact absurd (by omega) h2
    | 2, _, h1, h2 => first | exact absurd (by omega) h1 | exact absurd (by omega) h2
    | 3, _, h1, h2 => first | exact absurd (by omega) h1 | exact absurd (by omega) h2
    | 4, _, h1, h2 => first | exact absurd (by omega) h1 | exact absurd (by omega) h2
    | 5, _, h1, h2 => first | exact absurd (by omega) h1 | exact absurd (by omega) h2
    | 6, _, h1, h2 => first | exact absurd (by omega) h1 | exact absurd (by omega) h2
    | 7, _, h1, h2 => first | exact absurd (by omega) h1 | exact absurd (by omega) h2
    | 8, _, h1, h2 => first | exact absurd (by omega) h1 | exact absurd (by omega) h2
    | 9, _, h1, h2 => first | exact absurd (by omega) h1 | exact absurd (by omega) h2
    | 10, _, h1, h2 => first | exact absurd (by omega) h1 | exact absurd (by omega) h2
    | 11, _, h1, h2 => first | exact absurd (by omega) h1 | exact absurd (by omega) h2
    | 12, _, h1, h2 => first | exact absurd (by omega) h1 | exact absurd (by omega) h2
    | 13, _, h1, h2 => first | exact absurd (by omega) h1 | exact absurd (by omega) h2
    | 14, _, h1, h2 => first | exact absurd (by omega) h1 | exact absurd (by omega) h2
    | 15, _, h1, h2 => first | exact absurd (by omega) h1 | exact absurd (by omega) h2
    | 16, _, h1, h2 => first | exact absurd (by omega) h1 | exact absurd (by omega) h2
    | 17, _, _, _ => rfl
    | 18, _, _, _ => rfl
    | 19, _, _, _ => rfl
    | 20, _, _, _ => rfl
    | 21, _, _, _ => rfl
    | 22, _, _, _ => rfl
    | 23, _, _, _ => rfl
    | 24, _, _, _ => rfl
    | 25, _, _, _ => rfl
    | 26, _, _, _ => rfl
    | 27, _, _, _ => rfl
    | 28, _, _, _ => rfl
    | 29, _, _, _ => rfl
    | 30, _, _, _ => rfl
    | 31, _, _, _ => rfl
    | 32, _, _, _ => rfl
    | 33, _, _, _ => rfl
    | 34, _, _, _ => rfl
    | 35, _, _, _ => rfl
    | 36, _, _, _ => rfl
    | 37, _, _, _ => rfl
    | 38, _, _, _ => rfl
    | 39, _, _, _ => rfl
    | 40, _, _, _ => rfl
    | 41, _, _, _ => rfl
    | 42, _, _, _ => rfl
    | 43, _, _, _ => rfl
    | 44, _, _, _ => rfl
    | 45, _, _, _ => rfl
    | 46, _, _, _ => rfl
    | 47, _, _, _ => rfl
    | 48, _, _, _ => rfl
    | 49, _, _, _ => rfl
    | 50, _, _, _ => rfl
    | 51, _, _, _ => rfl
    | 52, _, _, _ => rfl
    | 53, _, _, _ => rfl
    | j + 54, hj, _, _ => exact absurd hj (by omega)
theorem mkX_KN : ∀ c, c < 54 → mkX O (fun c => cpP (mkPP K N) (8 + c)) (cpP (mkPP K N)) T B R S H Z c = mkX O N N T B R S H Z c := by
  intro c hc
  match c, hc with
  | 0, _ => rfl
  | 1, _ => rfl
  | 2, _ => rfl
  | 3, _ => rfl
  | 4, _ => rfl
  | 5, _ => rfl
  | 6, _ => rfl
  | 7, _ => rfl
  | 8, _ => rfl
  | 9, _ => rfl
  | 10, _ => rfl
  | 11, _ => rfl
  | 12, _ => rfl
  | 13, _ => rfl
  | 14, _ => rfl
  | 15, _ => rfl
  | 16, _ => rfl
  | 17, _ => rfl
  | 18, _ => rfl
  | 19, _ => rfl
  | 20, _ => rfl
  | 21, _ => rfl
  | 22, _ => rfl
  | 23, _ => rfl
  | 24, _ => rfl
  | 25, _ => rfl
  | 26, _ => rfl
  | 27, _ => rfl
  | 28, _ => rfl
  | 29, _ => rfl
  | 30, _ => rfl
  | 31, _ => rfl
  | 32, _ => rfl
  | 33, _ => rfl
  | 34, _ => rfl
  | 35, _ => rfl
  | 36, _ => rfl
  | 37, _ => rfl
  | 38, _ => rfl
  | 39, _ => rfl
  | 40, _ => rfl
  | 41, _ => rfl
  | 42, _ => rfl
  | 43, _ => rfl
  | 44, _ => rfl
  | 45, _ => rfl
  | 46, _ => rfl
  | 47, _ => rfl
  | 48, _ => rfl
  | 49, _ => rfl
  | 50, _ => rfl
  | 51, _ => rfl
  | 52, _ => rfl
  | 53, _ => rfl
  | j + 54, hj => exact absurd hj (by omega)
theorem em_XNK {G : GE} {ad : Nat → Nat} : EM 54 16 ad (fun k => ad (io2 1 8 9 k)) (shX G ad) (shPP G (fun k => ad (io2 1 8 9 k))) (mkX O N K T B R S H Z) (mkPP N K) (fun u => mkX O u (fun c => u (8 + c)) T B R S H Z) := by
  refine ⟨io2 1 8 9, fun k h => ⟨?_, rfl, ?_, ?_⟩, fun j k h1 h2 h => ?_, fun u => ⟨fun k h => ?_, fun i hi h => ?_⟩⟩
  · unfold io2
    split <;> omega
  · match k, h with
    | 0, _ => rfl
    | 1, _ => rfl
    | 2, _ => rfl
    | 3, _ => rfl
    | 4, _ => rfl
    | 5, _ => rfl
    | 6, _ => rfl
    | 7, _ => rfl
    | 8, _ => rfl
    | 9, _ => rfl
    | 10, _ => rfl
    | 11, _ => rfl
    | 12, _ => rfl
    | 13, _ => rfl
    | 14, _ => rfl
    | 15, _ => rfl
    | j + 16, hj => exact absurd hj (by omega)
  · intro f
    match k, h with
    | 0, _ => rfl
    | 1, _ => rfl
    | 2, _ => rfl
    | 3, _ => rfl
    | 4, _ => rfl
    | 5, _ => rfl
    | 6, _ => rfl
    | 7, _ => rfl
    | 8, _ => rfl
    | 9, _ => rfl
    | 10, _ => rfl
    | 11, _ => rfl
    | 12, _ => rfl
    | 13, _ => rfl
    | 14, _ => rfl
    | 15, _ => rfl
    | j + 16, hj => exact absurd hj (by omega)
  · unfold io2 at h
    split at h <;> split at h <;> omega
  · match k, h with
    | 0, _ => rfl
    | 1, _ => rfl
    | 2, _ => rfl
    | 3, _ => rfl
    | 4, _ => rfl
    | 5, _ => rfl
    | 6, _ => rfl
    | 7, _ => rfl
    | 8, _ => rfl
    | 9, _ => rfl
    | 10, _ => rfl
    | 11, _ => rfl
    | 12, _ => rfl
    | 13, _ => rfl
    | 14, _ => rfl
    | 15, _ => rfl
    | j + 16, hj => exact absurd hj (by omega)
  · have h1 : ¬ (1 ≤ i ∧ i < 9) := fun q => h (i - 1) (by omega) (by unfold io2; rw [if_pos (by omega)]; omega)
    have h2 : ¬ (9 ≤ i ∧ i < 17) := fun q => h (i - 9 + 8) (by omega) (by unfold io2; rw [if_neg (by omega)]; omega)
    show mkX O u (fun c => u (8 + c)) T B R S H Z i = mkX O N K T B R S H Z i
    match i, hi, h1, h2 with
    | 0, _, _, _ => rfl
    | 1, _, h1, h2 => first | exact absurd (by omega) h1 | exact absurd (by omega) h2
    | 2, _, h1, h2 => first | exact absurd (by omega) h1 | exact absurd (by omega) h2
    | 3, _, h1, h2 => first | exact absurd (by omega) h1 | exact absurd (by omega) h2
    | 4, _, h1, h2 => first | exact absurd (by omega) h1 | exact absurd (by omega) h2
    | 5, _, h1, h2 => first | exact absurd (by omega) h1 | exact absurd (by omega) h2
    | 6, _, h1, h2 => first | exact absurd (by omega) h1 | exact absurd (by omega) h2
    | 7, _, h1, h2 => first | exact absurd (by omega) h1 | exact absurd (by omega) h2
    | 8, _, h1, h2 => first | exact absurd (by omega) h1 | exact absurd (by omega) h2
    | 9, _, h1, h2 => first | exact absurd (by omega) h1 | exact absurd (by omega) h2
    | 10, _, h1, h2 => first | exact absurd (by omega) h1 | exact absurd (by omega) h2
    | 11, _, h1, h2 => first | exact absurd (by omega) h1 | exact absurd (by omega) h2
    | 12, _, h1, h2 => first | exact absurd (by omega) h1 | exact absurd (by omega) h2
    | 13, _, h1, h2 => first | exact absurd (by omega) h1 | exact absurd (by omega) h2
    | 14, _, h1, h2 => first | exact absurd (by omega) h1 | exact absurd (by omega) h2
    | 15, _, h1, h2 => first | exact absurd (by omega) h1 | exact absurd (by omega) h2
    | 16, _, h1, h2 => first | exact absurd (by omega) h1 | exact absurd (by omega) h2
    | 17, _, _, _ => rfl
    | 18, _, _, _ => rfl
    | 19, _, _, _ => rfl
    | 20, _, _, _ => rfl
    | 21, _, _, _ => rfl
    | 22, _, _, _ => rfl
    | 23, _, _, _ => rfl
    | 24, _, _, _ => rfl
    | 25, _, _, _ => rfl
    | 26, _, _, _ => rfl
    | 27, _, _, _ => rfl
    | 28, _, _, _ => rfl
    | 29, _, _, _ => rfl
    | 30, _, _, _ => rfl
    | 31, _, _, _ => rfl
    | 32, _, _, _ => rfl
    | 33, _, _, _ => rfl
    | 34, _, _, _ => rfl
    | 35, _, _, _ => rfl
    | 36, _, _, _ => rfl
    | 37, _, _, _ => rfl
    | 38, _, _, _ => rfl
    | 39, _, _, _ => rfl
    | 40, _, _, _ => rfl
    | 41, _, _, _ => rfl
    | 42, _, _, _ => rfl
    | 43, _, _, _ => rfl
    | 44, _, _, _ => rfl
    | 45, _, _, _ => rfl
    | 46, _, _, _ => rfl
    | 47, _, _, _ => rfl
    | 48, _, _, _ => rfl
    | 49, _, _, _ => rfl
    | 50, _, _, _ => rfl
    | 51, _, _, _ => rfl
    | 52, _, _, _ => rfl
    | 53, _, _, _ => rfl
    | j + 54, hj, _, _ => exact absurd hj (by omega)
theorem mkX_NK : ∀ c, c < 54 → mkX O (cpP (mkPP N K)) (fun c => cpP (mkPP N K) (8 + c)) T B R S H Z c = mkX O K K T B R S H Z c := by
  intro c hc
  match c, hc with
  | 0, _ => rfl
  | 1, _ => rfl
  | 2, _ => rfl
  | 3, _ => rfl
  | 4, _ => rfl
  | 5, _ => rfl
  | 6, _ => rfl
  | 7, _ => rfl
  | 8, _ => rfl
  | 9, _ => rfl
  | 10, _ => rfl
  | 11, _ => rfl
  | 12, _ => rfl
  | 13, _ => rfl
  | 14, _ => rfl
  | 15, _ => rfl
  | 16, _ => rfl
  | 17, _ => rfl
  | 18, _ => rfl
  | 19, _ => rfl
  | 20, _ => rfl
  | 21, _ => rfl
  | 22, _ => rfl
  | 23, _ => rfl
  | 24, _ => rfl
  | 25, _ => rfl
  | 26, _ => rfl
  | 27, _ => rfl
  | 28, _ => rfl
  | 29, _ => rfl
  | 30, _ => rfl
  | 31, _ => rfl
  | 32, _ => rfl
  | 33, _ => rfl
  | 34, _ => rfl
  | 35, _ => rfl
  | 36, _ => rfl
  | 37, _ => rfl
  | 38, _ => rfl
  | 39, _ => rfl
  | 40, _ => rfl
  | 41, _ => rfl
  | 42, _ => rfl
  | 43, _ => rfl
  | 44, _ => rfl
  | 45, _ => rfl
  | 46, _ => rfl
  | 47, _ => rfl
  | 48, _ => rfl
  | 49, _ => rfl
  | 50, _ => rfl
  | 51, _ => rfl
  | 52, _ => rfl
  | 53, _ => rfl
  | j + 54, hj => exact absurd hj (by omega)
end MX
theorem shX_se {G : GE} {ad : Nat → Nat} {j : Nat} (h : j < 4) (f : Nat → Int32) : shX G ad (39 + 2 * j) f = .inr (2, [.int (f 0), .int (f 1), .ref (ad (40 + 2 * j))]) := by
  match j, h with
  | 0, _ => rfl
  | 1, _ => rfl
  | 2, _ => rfl
  | 3, _ => rfl
theorem shX_si {G : GE} {ad : Nat → Nat} {j : Nat} (h : j < 4) (f : Nat → Int32) : shX G ad (40 + 2 * j) f = .inl (G.2.1 0, 40, .inl f) := by
  match j, h with
  | 0, _ => rfl
  | 1, _ => rfl
  | 2, _ => rfl
  | 3, _ => rfl
theorem shX_sv {G : GE} {ad : Nat → Nat} {j : Nat} (h : j < 4) (f : Nat → Int32) : shX G ad (48 + j) f = .inr (3, [.int (f 0), .int (f 1), .int (f 2)]) := by
  match j, h with
  | 0, _ => rfl
  | 1, _ => rfl
  | 2, _ => rfl
  | 3, _ => rfl
theorem shX_ro {G : GE} {ad : Nat → Nat} {j : Nat} (h : j < 10) (f : Nat → Int32) : shX G ad (28 + j) f = .inl (G.2.1 0, 3, .inl f) := by
  match j, h with
  | 0, _ => rfl
  | 1, _ => rfl
  | 2, _ => rfl
  | 3, _ => rfl
  | 4, _ => rfl
  | 5, _ => rfl
  | 6, _ => rfl
  | 7, _ => rfl
  | 8, _ => rfl
  | 9, _ => rfl

