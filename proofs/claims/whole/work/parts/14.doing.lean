
theorem hRs {k' k maxL : Nat} (h : k' + 1 ≤ k) (hm : maxL ≤ 45) : k' + 1 ≤ (rmk k).frames ∧ 8 + (maxL + 11) + 64 * k' ≤ (rmk k).locals ∧ 0 ≤ (rmk k).cells ∧ 0 ≤ (rmk k).slots := ⟨h, by show _ ≤ 64 * k; omega, Nat.le_refl 0, Nat.le_refl 0⟩
/-! a Sheet, a Shelf -/
abbrev missS (S : WM) : Prop := S 0 0 = -1
def rowS (S : WM) (so n : Int32) : WM := fun c => match c with
  | 0 => fun j => if j = 0 then so else if j = 1 then n else S 0 j
  | 1 => fun k => if k < ix n then 0 else S 1 k
  | c + 2 => S (c + 2)
def narS (S : WM) (v : Int32) : Int32 := if S 0 0 = 0 then v.toInt8.toInt32 else if S 0 0 = 1 then v.toInt16.toInt32 else v

set_option maxRecDepth 100000 in
set_option maxHeartbeats 4000000 in
theorem c_X2_isMissing (l : Launch) (G : GE) {ad : Nat → Nat} {M : WM}  : CT l G yX2_isMissing cX2_isMissing 1 (some .boolean) 0 [.ref (ad 0)] 2 ad (shS G ad) M (PI (fun r u => r = bI (missS M) ∧ u = M)) := by
  refine CT.of (own := RX2) rfl rfl (le_b rfl) fun p e s m args below meth c A C0 hr => ?_
  refine AW.lo (ls2 := [(0, _)]) rfl ?_
  refine a_aload_n C0 0 dX2_isMissing_0 rfl rfl ?_
  refine g_X2_9 C0 (lt_b rfl) rfl rfl dX2_isMissing_1 ?_
  refine a_iconst C0 (-1) dX2_isMissing_4 rfl ?_
  refine a_icmp_ne C0 12 dX2_isMissing_5 rfl (fun h5 => ?_) (fun h5 => ?_)
  · refine a_iconst C0 0 dX2_isMissing_12 rfl ?_
    refine a_zret C0 hr rfl dX2_isMissing_13 ?_
    refine rt_ ?_
    first
      | exact (bI_t h5).symm
      | exact (bI_f h5).symm
  · refine a_iconst C0 1 dX2_isMissing_8 rfl ?_
    refine a_goto C0 13 dX2_isMissing_9 rfl ?_
    refine a_zret C0 hr rfl dX2_isMissing_13 ?_
    refine rt_ ?_
    first
      | exact (bI_t h5).symm
      | exact (bI_f h5).symm
set_option maxRecDepth 100000 in
set_option maxHeartbeats 4000000 in
theorem c_X2_becomeMissing (l : Launch) (G : GE) {ad : Nat → Nat} {M : WM}  : CT l G yX2_becomeMissing cX2_becomeMissing 1 none 0 [.ref (ad 0)] 2 ad (shS G ad) M (PV (fun u => u = up2 (up2 M 0 0 (-1)) 0 1 0)) := by
  refine CT.of (own := RX2) rfl rfl (le_b rfl) fun p e s m args below meth c A C0 hr => ?_
  refine AW.lo (ls2 := [(0, _)]) rfl ?_
  refine a_aload_n C0 0 dX2_becomeMissing_0 rfl rfl ?_
  refine a_iconst C0 (-1) dX2_becomeMissing_1 rfl ?_
  refine p_X2_9 C0 (lt_b rfl) rfl (lt_b rfl) rfl rfl dX2_becomeMissing_2 ?_
  refine a_aload_n C0 0 dX2_becomeMissing_5 rfl rfl ?_
  refine a_iconst C0 0 dX2_becomeMissing_6 rfl ?_
  refine p_X2_19 C0 (lt_b rfl) rfl (lt_b rfl) rfl rfl dX2_becomeMissing_7 ?_
  refine a_vret C0 hr dX2_becomeMissing_10 ?_
  exact rv_ rfl
set_option maxRecDepth 100000 in
set_option maxHeartbeats 4000000 in
theorem c_X2_becomeRow (l : Launch) (G : GE) {ad : Nat → Nat} {M : WM} {so y : Int32} (hy : ix y ≤ 40) : CT l G yX2_becomeRow cX2_becomeRow 4 none 0 [.ref (ad 0), .int so, .int y] 2 ad (shS G ad) M (PV (fun u => u = rowS M so y)) := by
  refine CT.of (own := RX2) rfl rfl (le_b rfl) fun p e s m args below meth c A C0 hr => ?_
  refine AW.lo (ls2 := [(0, _), (1, _), (2, _)]) rfl ?_
  have lp : ∀ (n : Nat) (i : Nat) (xi : Int32) (M1 : WM), ix y - i < n → (i ≤ ix y) → (xi = nI i) → (M1 0 = (up2 (up2 M 0 0 so) 0 1 y) 0) → (∀ k, M1 1 k = if k < i then 0 else M 1 k) → (∀ q, M1 (q + 2) = M (q + 2)) → AW p l e (rmk 0) s m args below meth c G A 2 ad (shS G ad) 4 0 0 (MQ below (CQ G 2 ad (shS G ad) A (PV (fun u => u = rowS M so y))) args s 0 0 A) 12 [(0, .ref (ad 0)), (1, .int so), (2, .int y), (3, .int xi)] [] M1 := by
    intro n
    induction n with
    | zero =>
      intro i xi M1 hn
      exact absurd hn (Nat.not_lt_zero _)
    | succ n ih =>
      intro i xi M1 hn hi hxi g0 g1 g2
      refine a_iload_n C0 3 dX2_becomeRow_12 rfl rfl ?_
      refine a_iload_n C0 2 dX2_becomeRow_13 rfl rfl ?_
      refine a_icmp_ge C0 30 dX2_becomeRow_14 rfl (fun h14 => ?_) (fun h14 => ?_)
      · refine a_vret C0 hr dX2_becomeRow_30 ?_
        refine rv_ ?_
        have e : i = ix y := Nat.le_antisymm hi (i_geY hxi (Nat.lt_of_le_of_lt hi (ix_lt _)) h14)
        subst e
        funext q
        match q with
        | 0 =>
          rw [g0]
          funext j
          show (if j = 1 then y else if j = 0 then so else M 0 j) = if j = 0 then so else if j = 1 then y else M 0 j
          by_cases h1 : j = 0
          · subst h1
            rfl
          · rw [if_neg h1, if_neg h1]
        | 1 => exact funext g1
        | q + 2 => exact g2 q
      · have hlt : i < ix y := i_ltY hxi (Nat.lt_of_le_of_lt hi (ix_lt _)) h14
        have hx : IX xi i 40 := IX.eqn hxi (by omega) (by decide)
        refine a_aload_n C0 0 dX2_becomeRow_17 rfl rfl ?_
        refine g_X2_15 C0 (lt_b rfl) rfl rfl dX2_becomeRow_18 ?_
        refine a_iload_n C0 3 dX2_becomeRow_21 rfl rfl ?_
        refine a_iconst C0 0 dX2_becomeRow_22 rfl ?_
        refine a_iast C0 _ (lt_b rfl) (fun _ => rfl) hx.1 hx.2 dX2_becomeRow_23 ?_
        refine a_iinc (ls2 := [(3, _), (0, _), (1, _), (2, _)]) C0 3 1 dX2_becomeRow_24 rfl rfl (lt_b rfl) rfl ?_
        refine a_goto C0 12 dX2_becomeRow_27 rfl ?_
        refine AW.sub (ls2 := [(0, _), (1, _), (2, _), (3, _)]) [1, 2, 3, 0] rfl ?_
        exact ih (i + 1) _ _ (by omega) hlt (by rw [hxi, nI_1]) g0 (fun k => by
          show (if k = i then (0 : Int32) else M1 1 k) = _
          rw [g1 k]
          by_cases h1 : k = i
          · rw [if_pos h1, if_pos (by omega)]
          · rw [if_neg h1]
            by_cases h2 : k < i
            · rw [if_pos h2, if_pos (by omega)]
            · rw [if_neg h2, if_neg (by omega)]) g2
  refine a_aload_n C0 0 dX2_becomeRow_0 rfl rfl ?_
  refine a_iload_n C0 1 dX2_becomeRow_1 rfl rfl ?_
  refine p_X2_9 C0 (lt_b rfl) rfl (lt_b rfl) rfl rfl dX2_becomeRow_2 ?_
  refine a_aload_n C0 0 dX2_becomeRow_5 rfl rfl ?_
  refine a_iload_n C0 2 dX2_becomeRow_6 rfl rfl ?_
  refine p_X2_19 C0 (lt_b rfl) rfl (lt_b rfl) rfl rfl dX2_becomeRow_7 ?_
  refine a_iconst C0 0 dX2_becomeRow_10 rfl ?_
  refine a_istore_n (ls2 := [(3, _), (0, _), (1, _), (2, _)]) C0 dX2_becomeRow_11 rfl (lt_b rfl) rfl ?_
  refine AW.sub (ls2 := [(0, _), (1, _), (2, _), (3, _)]) [1, 2, 3, 0] rfl ?_
  exact lp (ix y + 1) 0 _ _ (by omega) (Nat.zero_le _) rfl rfl (fun k => (if_neg (Nat.not_lt_zero k)).symm) (fun _ => rfl)
set_option maxRecDepth 100000 in
set_option maxHeartbeats 4000000 in
theorem c_X2_narrowed (l : Launch) (G : GE) {ad : Nat → Nat} {M : WM} {v : Int32} : CT l G yX2_narrowed cX2_narrowed 2 (some .int) 0 [.ref (ad 0), .int v] 2 ad (shS G ad) M (PI (fun r u => r = narS M v ∧ u = M)) := by
  refine CT.of (own := RX2) rfl rfl (le_b rfl) fun p e s m args below meth c A C0 hr => ?_
  refine AW.lo (ls2 := [(0, _), (1, _)]) rfl ?_
  refine a_aload_n C0 0 dX2_narrowed_0 rfl rfl ?_
  refine g_X2_9 C0 (lt_b rfl) rfl rfl dX2_narrowed_1 ?_
  refine a_if_ne C0 10 dX2_narrowed_4 rfl (fun h4 => ?_) (fun h4 => ?_)
  · refine a_aload_n C0 0 dX2_narrowed_10 rfl rfl ?_
    refine g_X2_9 C0 (lt_b rfl) rfl rfl dX2_narrowed_11 ?_
    refine a_iconst C0 1 dX2_narrowed_14 rfl ?_
    refine a_icmp_ne C0 23 dX2_narrowed_15 rfl (fun h15 => ?_) (fun h15 => ?_)
    · refine a_iload_n C0 1 dX2_narrowed_23 rfl rfl ?_
      refine a_iret C0 hr dX2_narrowed_24 ?_
      refine rt_ ?_
      unfold narS
      first
        | rw [if_neg h4, if_neg h15]
        | rw [if_neg h4, if_pos h15]
        | rw [if_pos h4]
    · refine a_iload_n C0 1 dX2_narrowed_18 rfl rfl ?_
      refine a_i2s C0 dX2_narrowed_19 ?_
      refine a_goto C0 24 dX2_narrowed_20 rfl ?_
      refine a_iret C0 hr dX2_narrowed_24 ?_
      refine rt_ ?_
      unfold narS
      first
        | rw [if_neg h4, if_neg h15]
        | rw [if_neg h4, if_pos h15]
        | rw [if_pos h4]
  · refine a_iload_n C0 1 dX2_narrowed_7 rfl rfl ?_
    refine a_i2b C0 dX2_narrowed_8 ?_
    refine a_iret C0 hr dX2_narrowed_9 ?_
    refine rt_ ?_
    unfold narS
    first
      | rw [if_neg h4, if_neg h15]
      | rw [if_neg h4, if_pos h15]
      | rw [if_pos h4]
set_option maxRecDepth 100000 in
set_option maxHeartbeats 4000000 in
theorem c_X3_holdTale (l : Launch) (G : GE) {ad : Nat → Nat} {M : WM} {v : Int32} : CT l G yX3_holdTale cX3_holdTale 2 none 0 [.ref (ad 0), .int v] 1 ad (shH G ad) M (PV (fun u => u = up2 (up2 M 0 0 1) 0 1 v)) := by
  refine CT.of (own := RX3) rfl rfl (le_b rfl) fun p e s m args below meth c A C0 hr => ?_
  refine AW.lo (ls2 := [(0, _), (1, _)]) rfl ?_
  refine a_aload_n C0 0 dX3_holdTale_0 rfl rfl ?_
  refine a_iconst C0 1 dX3_holdTale_1 rfl ?_
  refine p_X3_9 C0 (lt_b rfl) rfl (lt_b rfl) rfl rfl dX3_holdTale_2 ?_
  refine a_aload_n C0 0 dX3_holdTale_5 rfl rfl ?_
  refine a_iload_n C0 1 dX3_holdTale_6 rfl rfl ?_
  refine p_X3_13 C0 (lt_b rfl) rfl (lt_b rfl) rfl rfl dX3_holdTale_7 ?_
  refine a_vret C0 hr dX3_holdTale_10 ?_
  exact rv_ rfl
set_option maxRecDepth 100000 in
set_option maxHeartbeats 4000000 in
theorem c_X3_holdNothing (l : Launch) (G : GE) {ad : Nat → Nat} {M : WM}  : CT l G yX3_holdNothing cX3_holdNothing 1 none 0 [.ref (ad 0)] 1 ad (shH G ad) M (PV (fun u => u = up2 M 0 0 0)) := by
  refine CT.of (own := RX3) rfl rfl (le_b rfl) fun p e s m args below meth c A C0 hr => ?_
  refine AW.lo (ls2 := [(0, _)]) rfl ?_
  refine a_aload_n C0 0 dX3_holdNothing_0 rfl rfl ?_
  refine a_iconst C0 0 dX3_holdNothing_1 rfl ?_
  refine p_X3_9 C0 (lt_b rfl) rfl (lt_b rfl) rfl rfl dX3_holdNothing_2 ?_
  refine a_vret C0 hr dX3_holdNothing_5 ?_
  exact rv_ rfl

theorem em_HSS1 {G : GE} {ad : Nat → Nat} {M : WM} : EM 3 2 ad (fun k => ad (1 + k)) (shHS G ad) (shS G (fun k => ad (1 + k))) M (fun k => M (1 + k)) (emb 1 2 M) := EM.block 1 (le_b rfl) (fun k hk f => by
  match k, hk with
  | 0, _ => rfl
  | 1, _ => rfl
  )
def holdHS (M : WM) : WM := up2 (up2 (up2 M 0 0 (if missS (fun k => M (1 + k)) then 0 else 2)) 0 1 (M 1 1)) 0 2 (M 1 0)

set_option maxRecDepth 100000 in
set_option maxHeartbeats 4000000 in
theorem c_X3_holdRow (l : Launch) (G : GE) {ad : Nat → Nat} {M : WM}  : CT l G yX3_holdRow cX3_holdRow 2 none 1 [.ref (ad 0), .ref (ad 1)] 3 ad (shHS G ad) M (PV (fun u => u = holdHS M)) := by
  refine CT.of (own := RX3) rfl rfl (le_b rfl) fun p e s m args below meth c A C0 hr => ?_
  refine AW.lo (ls2 := [(0, _), (1, _)]) rfl ?_
  refine a_aload_n C0 0 dX3_holdRow_0 rfl rfl ?_
  refine a_aload_n C0 1 dX3_holdRow_1 rfl rfl ?_
  refine a_callV _ 0 C0 em_HSS1 (c_X2_isMissing l G (ad := fun k => ad (1 + k))) u_c_X2_isMissing u_m_X3_16 u_im_X2_isMissing u_se_X2_isMissing u_in_X2 hy_X2_isMissing rfl (lt_b rfl) rfl (hRk rfl) rfl rfl (le_b rfl) dX3_holdRow_2 (k_ro em_HSS1 ?_)
  refine a_if_eqb C0 12 dX3_holdRow_5 rfl (fun h5 => ?_) (fun h5 => ?_)
  · refine a_iconst C0 2 dX3_holdRow_12 rfl ?_
    refine p_X3_9 C0 (lt_b rfl) rfl (lt_b rfl) rfl rfl dX3_holdRow_13 ?_
    refine a_aload_n C0 0 dX3_holdRow_16 rfl rfl ?_
    refine a_aload_n C0 1 dX3_holdRow_17 rfl rfl ?_
    refine g_X3_22 C0 (lt_b rfl) rfl rfl dX3_holdRow_18 ?_
    refine p_X3_13 C0 (lt_b rfl) rfl (lt_b rfl) rfl rfl dX3_holdRow_21 ?_
    refine a_aload_n C0 0 dX3_holdRow_24 rfl rfl ?_
    refine a_aload_n C0 1 dX3_holdRow_25 rfl rfl ?_
    refine g_X3_25 C0 (lt_b rfl) rfl rfl dX3_holdRow_26 ?_
    refine p_X3_28 C0 (lt_b rfl) rfl (lt_b rfl) rfl rfl dX3_holdRow_29 ?_
    refine a_vret C0 hr dX3_holdRow_32 ?_
    refine rv_ ?_
    unfold holdHS
    first
      | (rw [if_pos h5]; rfl)
      | (rw [if_neg h5]; rfl)
  · refine a_iconst C0 0 dX3_holdRow_8 rfl ?_
    refine a_goto C0 13 dX3_holdRow_9 rfl ?_
    refine p_X3_9 C0 (lt_b rfl) rfl (lt_b rfl) rfl rfl dX3_holdRow_13 ?_
    refine a_aload_n C0 0 dX3_holdRow_16 rfl rfl ?_
    refine a_aload_n C0 1 dX3_holdRow_17 rfl rfl ?_
    refine g_X3_22 C0 (lt_b rfl) rfl rfl dX3_holdRow_18 ?_
    refine p_X3_13 C0 (lt_b rfl) rfl (lt_b rfl) rfl rfl dX3_holdRow_21 ?_
    refine a_aload_n C0 0 dX3_holdRow_24 rfl rfl ?_
    refine a_aload_n C0 1 dX3_holdRow_25 rfl rfl ?_
    refine g_X3_25 C0 (lt_b rfl) rfl rfl dX3_holdRow_26 ?_
    refine p_X3_28 C0 (lt_b rfl) rfl (lt_b rfl) rfl rfl dX3_holdRow_29 ?_
    refine a_vret C0 hr dX3_holdRow_32 ?_
    refine rv_ ?_
    unfold holdHS
    first
      | (rw [if_pos h5]; rfl)
      | (rw [if_neg h5]; rfl)

/-! a Doing: 0 it (1 count, 2 kind, 3 number, 4 house, 5 parted0), 1 bodies -/
def noteD (D : WM) (b : Int32) : WM := if D 0 1 < 30 then up2 (up2 D 1 (ix (D 0 1)) b) 0 1 (D 0 1 + 1) else D
def quoD (D : WM) (x y : Int32) : Int32 × WM := if y = 0 then (0, up2 D 0 5 1) else (x / y, D)
def bodyD (D : WM) (a : Int32) : Int32 := (st_vals 3).getD (ix (D 0 2 * 4 + a)) 0
def KD (D : WM) : Prop := (∃ k, k < 6 ∧ D 0 2 = nI k) ∧ ∃ n, n ≤ 30 ∧ D 0 1 = nI n
def BD (b : Int32) : Prop := b = 10 ∨ b = 11 ∨ b = 12 ∨ b = 13 ∨ b = 20 ∨ b = 30 ∨ b = 31 ∨ b = 40 ∨ b = 41 ∨ b = 50 ∨ b = 51 ∨ b = 60 ∨ b = 61
theorem KD.note {D : WM} (h : KD D) (b : Int32) : KD (noteD D b) := by
  obtain ⟨h1, n, hn, e⟩ := h
  unfold noteD
  by_cases h : D 0 1 < 30
  · rw [if_pos h]
    refine ⟨h1, n + 1, ?_, ?_⟩
    · rw [e] at h
      have := (nI_ltI (a := n) (b := 30) (by omega) (by decide)).mp h
      omega
    · show D 0 1 + 1 = _
      rw [e, nI_1]
  · rw [if_neg h]
    exact ⟨h1, n, hn, e⟩
theorem KD.quo {D : WM} (h : KD D) (x y : Int32) : KD (quoD D x y).2 := by
  unfold quoD
  split
  · exact ⟨h.1, h.2⟩
  · exact h
theorem KD.body {D : WM} (h : KD D) {a : Int32} {a' : Nat} (ha : IX a a' 4) : IX (D 0 2 * 4 + a) (ix (D 0 2 * 4 + a)) 24 ∧ BD (bodyD D a) := by
  obtain ⟨⟨k, hk, e⟩, -⟩ := h
  have ea := ha.eq (by decide)
  have hlt := ha.lt
  have e2 : D 0 2 * 4 + a = nI (k * 4 + a') := by
    rw [e, ea, show (4 : Int32) = nI 4 from rfl, pk_mul, nI_add]
  refine ⟨IX.v ?_, ?_⟩
  · rw [e2]
    exact vp_in_nI (by omega) (by decide)
  · unfold bodyD
    rw [e2, show ix (nI (k * 4 + a')) = k * 4 + a' from nI_clamp (by omega)]
    have : ∀ i, i < 24 → BD ((st_vals 3).getD i 0) := by
      unfold BD
      decide +kernel
    exact this _ (by omega)
/-- one body, with what it calls -/
def stepD (rn : WM → Int32 → Int32 → Int32 × WM) (D : WM) (b x : Int32) : Int32 × WM :=
  if b = 10 then (x * 2 - D 0 3, D)
  else if b = 11 then ((rn D (bodyD D 0) x).1 + (rn D (bodyD D 0) x).2 0 4 * 4, (rn D (bodyD D 0) x).2)
  else if b = 12 then quoD D x (D 0 4 - D 0 3)
  else if b = 13 then ((rn D (bodyD D 1) x).1 ^^^ 160, (rn D (bodyD D 1) x).2)
  else if b = 20 then ((rn D 11 x).1 - 1, (rn D 11 x).2)
  else if b = 30 then (0 - (rn D 10 x).1, (rn D 10 x).2)
  else if b = 31 then ((rn D 13 x).1 + (rn (rn D 13 x).2 (bodyD (rn D 13 x).2 2) ((rn D 13 x).2 0 3)).1, (rn (rn D 13 x).2 (bodyD (rn D 13 x).2 2) ((rn D 13 x).2 0 3)).2)
  else if b = 40 then ((rn D 30 x).1 * 3, (rn D 30 x).2)
  else if b = 41 then ((rn D 11 x).1 ^^^ (rn (rn D 11 x).2 (bodyD (rn D 11 x).2 0) ((rn D 11 x).2 0 4)).1, (rn (rn D 11 x).2 (bodyD (rn D 11 x).2 0) ((rn D 11 x).2 0 4)).2)
  else if b = 50 then ((rn D 12 (x + 8)).1 - (rn D 12 (x + 8)).2 0 3, (rn D 12 (x + 8)).2)
  else if b = 51 then ((rn D 10 x).1 + (rn D 10 x).2 0 4, (rn D 10 x).2)
  else if b = 60 then ((rn D 13 x).1 - 6, (rn D 13 x).2)
  else ((rn D 12 x).1 * (rn (rn D 12 x).2 (bodyD (rn D 12 x).2 0) ((rn D 12 x).2 0 3)).1, (rn (rn D 12 x).2 (bodyD (rn D 12 x).2 0) ((rn D 12 x).2 0 3)).2)
theorem sD_10 (rn : WM → Int32 → Int32 → Int32 × WM) (D : WM) (x : Int32) : stepD rn D 10 x = (x * 2 - D 0 3, D) := by
  unfold stepD
  rw [if_pos rfl]
theorem sD_11 (rn : WM → Int32 → Int32 → Int32 × WM) (D : WM) (x : Int32) : stepD rn D 11 x = ((rn D (bodyD D 0) x).1 + (rn D (bodyD D 0) x).2 0 4 * 4, (rn D (bodyD D 0) x).2) := by
  unfold stepD
  rw [if_neg (show ¬ (11 : Int32) = 10 by decide), if_pos rfl]
theorem sD_12 (rn : WM → Int32 → Int32 → Int32 × WM) (D : WM) (x : Int32) : stepD rn D 12 x = quoD D x (D 0 4 - D 0 3) := by
  unfold stepD
  rw [if_neg (show ¬ (12 : Int32) = 10 by decide), if_neg (show ¬ (12 : Int32) = 11 by decide), if_pos rfl]
theorem sD_13 (rn : WM → Int32 → Int32 → Int32 × WM) (D : WM) (x : Int32) : stepD rn D 13 x = ((rn D (bodyD D 1) x).1 ^^^ 160, (rn D (bodyD D 1) x).2) := by
  unfold stepD
  rw [if_neg (show ¬ (13 : Int32) = 10 by decide), if_neg (show ¬ (13 : Int32) = 11 by decide), if_neg (show ¬ (13 : Int32) = 12 by decide), if_pos rfl]
theorem sD_20 (rn : WM → Int32 → Int32 → Int32 × WM) (D : WM) (x : Int32) : stepD rn D 20 x = ((rn D 11 x).1 - 1, (rn D 11 x).2) := by
  unfold stepD
  rw [if_neg (show ¬ (20 : Int32) = 10 by decide), if_neg (show ¬ (20 : Int32) = 11 by decide), if_neg (show ¬ (20 : Int32) = 12 by decide), if_neg (show ¬ (20 : Int32) = 13 by decide), if_pos rfl]
theorem sD_30 (rn : WM → Int32 → Int32 → Int32 × WM) (D : WM) (x : Int32) : stepD rn D 30 x = (0 - (rn D 10 x).1, (rn D 10 x).2) := by
  unfold stepD
  rw [if_neg (show ¬ (30 : Int32) = 10 by decide), if_neg (show ¬ (30 : Int32) = 11 by decide), if_neg (show ¬ (30 : Int32) = 12 by decide), if_neg (show ¬ (30 : Int32) = 13 by decide), if_neg (show ¬ (30 : Int32) = 20 by decide), if_pos rfl]
theorem sD_31 (rn : WM → Int32 → Int32 → Int32 × WM) (D : WM) (x : Int32) : stepD rn D 31 x = ((rn D 13 x).1 + (rn (rn D 13 x).2 (bodyD (rn D 13 x).2 2) ((rn D 13 x).2 0 3)).1, (rn (rn D 13 x).2 (bodyD (rn D 13 x).2 2) ((rn D 13 x).2 0 3)).2) := by
  unfold stepD
  rw [if_neg (show ¬ (31 : Int32) = 10 by decide), if_neg (show ¬ (31 : Int32) = 11 by decide), if_neg (show ¬ (31 : Int32) = 12 by decide), if_neg (show ¬ (31 : Int32) = 13 by decide), if_neg (show ¬ (31 : Int32) = 20 by decide), if_neg (show ¬ (31 : Int32) = 30 by decide), if_pos rfl]
theorem sD_40 (rn : WM → Int32 → Int32 → Int32 × WM) (D : WM) (x : Int32) : stepD rn D 40 x = ((rn D 30 x).1 * 3, (rn D 30 x).2) := by
  unfold stepD
  rw [if_neg (show ¬ (40 : Int32) = 10 by decide), if_neg (show ¬ (40 : Int32) = 11 by decide), if_neg (show ¬ (40 : Int32) = 12 by decide), if_neg (show ¬ (40 : Int32) = 13 by decide), if_neg (show ¬ (40 : Int32) = 20 by decide), if_neg (show ¬ (40 : Int32) = 30 by decide), if_neg (show ¬ (40 : Int32) = 31 by decide), if_pos rfl]
theorem sD_41 (rn : WM → Int32 → Int32 → Int32 × WM) (D : WM) (x : Int32) : stepD rn D 41 x = ((rn D 11 x).1 ^^^ (rn (rn D 11 x).2 (bodyD (rn D 11 x).2 0) ((rn D 11 x).2 0 4)).1, (rn (rn D 11 x).2 (bodyD (rn D 11 x).2 0) ((rn D 11 x).2 0 4)).2) := by
  unfold stepD
  rw [if_neg (show ¬ (41 : Int32) = 10 by decide), if_neg (show ¬ (41 : Int32) = 11 by decide), if_neg (show ¬ (41 : Int32) = 12 by decide), if_neg (show ¬ (41 : Int32) = 13 by decide), if_neg (show ¬ (41 : Int32) = 20 by decide), if_neg (show ¬ (41 : Int32) = 30 by decide), if_neg (show ¬ (41 : Int32) = 31 by decide), if_neg (show ¬ (41 : Int32) = 40 by decide), if_pos rfl]
theorem sD_50 (rn : WM → Int32 → Int32 → Int32 × WM) (D : WM) (x : Int32) : stepD rn D 50 x = ((rn D 12 (x + 8)).1 - (rn D 12 (x + 8)).2 0 3, (rn D 12 (x + 8)).2) := by
  unfold stepD
  rw [if_neg (show ¬ (50 : Int32) = 10 by decide), if_neg (show ¬ (50 : Int32) = 11 by decide), if_neg (show ¬ (50 : Int32) = 12 by decide), if_neg (show ¬ (50 : Int32) = 13 by decide), if_neg (show ¬ (50 : Int32) = 20 by decide), if_neg (show ¬ (50 : Int32) = 30 by decide), if_neg (show ¬ (50 : Int32) = 31 by decide), if_neg (show ¬ (50 : Int32) = 40 by decide), if_neg (show ¬ (50 : Int32) = 41 by decide), if_pos rfl]
theorem sD_51 (rn : WM → Int32 → Int32 → Int32 × WM) (D : WM) (x : Int32) : stepD rn D 51 x = ((rn D 10 x).1 + (rn D 10 x).2 0 4, (rn D 10 x).2) := by
  unfold stepD
  rw [if_neg (show ¬ (51 : Int32) = 10 by decide), if_neg (show ¬ (51 : Int32) = 11 by decide), if_neg (show ¬ (51 : Int32) = 12 by decide), if_neg (show ¬ (51 : Int32) = 13 by decide), if_neg (show ¬ (51 : Int32) = 20 by decide), if_neg (show ¬ (51 : Int32) = 30 by decide), if_neg (show ¬ (51 : Int32) = 31 by decide), if_neg (show ¬ (51 : Int32) = 40 by decide), if_neg (show ¬ (51 : Int32) = 41 by decide), if_neg (show ¬ (51 : Int32) = 50 by decide), if_pos rfl]
theorem sD_60 (rn : WM → Int32 → Int32 → Int32 × WM) (D : WM) (x : Int32) : stepD rn D 60 x = ((rn D 13 x).1 - 6, (rn D 13 x).2) := by
  unfold stepD
  rw [if_neg (show ¬ (60 : Int32) = 10 by decide), if_neg (show ¬ (60 : Int32) = 11 by decide), if_neg (show ¬ (60 : Int32) = 12 by decide), if_neg (show ¬ (60 : Int32) = 13 by decide), if_neg (show ¬ (60 : Int32) = 20 by decide), if_neg (show ¬ (60 : Int32) = 30 by decide), if_neg (show ¬ (60 : Int32) = 31 by decide), if_neg (show ¬ (60 : Int32) = 40 by decide), if_neg (show ¬ (60 : Int32) = 41 by decide), if_neg (show ¬ (60 : Int32) = 50 by decide), if_neg (show ¬ (60 : Int32) = 51 by decide), if_pos rfl]
theorem sD_61 (rn : WM → Int32 → Int32 → Int32 × WM) (D : WM) (x : Int32) : stepD rn D 61 x = ((rn D 12 x).1 * (rn (rn D 12 x).2 (bodyD (rn D 12 x).2 0) ((rn D 12 x).2 0 3)).1, (rn (rn D 12 x).2 (bodyD (rn D 12 x).2 0) ((rn D 12 x).2 0 3)).2) := by
  unfold stepD
  rw [if_neg (show ¬ (61 : Int32) = 10 by decide), if_neg (show ¬ (61 : Int32) = 11 by decide), if_neg (show ¬ (61 : Int32) = 12 by decide), if_neg (show ¬ (61 : Int32) = 13 by decide), if_neg (show ¬ (61 : Int32) = 20 by decide), if_neg (show ¬ (61 : Int32) = 30 by decide), if_neg (show ¬ (61 : Int32) = 31 by decide), if_neg (show ¬ (61 : Int32) = 40 by decide), if_neg (show ¬ (61 : Int32) = 41 by decide), if_neg (show ¬ (61 : Int32) = 50 by decide), if_neg (show ¬ (61 : Int32) = 51 by decide), if_neg (show ¬ (61 : Int32) = 60 by decide)]
theorem KD.step {rn : WM → Int32 → Int32 → Int32 × WM} (hr : ∀ (D : WM) (b x : Int32), KD D → KD (rn D b x).2) {D : WM} (h1 : KD D) {b : Int32} (x : Int32) (hb : BD b) : KD (stepD rn D b x).2 := by
  unfold BD at hb
  rcases hb with rfl | rfl | rfl | rfl | rfl | rfl | rfl | rfl | rfl | rfl | rfl | rfl | rfl
  · rw [sD_10]
    exact h1
  · rw [sD_11]
    first
    | exact hr _ _ _ h1
    | exact hr _ _ _ (hr _ _ _ h1)
  · rw [sD_12]
    exact h1.quo _ _
  · rw [sD_13]
    first
    | exact hr _ _ _ h1
    | exact hr _ _ _ (hr _ _ _ h1)
  · rw [sD_20]
    first
    | exact hr _ _ _ h1
    | exact hr _ _ _ (hr _ _ _ h1)
  · rw [sD_30]
    first
    | exact hr _ _ _ h1
    | exact hr _ _ _ (hr _ _ _ h1)
  · rw [sD_31]
    first
    | exact hr _ _ _ h1
    | exact hr _ _ _ (hr _ _ _ h1)
  · rw [sD_40]
    first
    | exact hr _ _ _ h1
    | exact hr _ _ _ (hr _ _ _ h1)
  · rw [sD_41]
    first
    | exact hr _ _ _ h1
    | exact hr _ _ _ (hr _ _ _ h1)
  · rw [sD_50]
    first
    | exact hr _ _ _ h1
    | exact hr _ _ _ (hr _ _ _ h1)
  · rw [sD_51]
    first
    | exact hr _ _ _ h1
    | exact hr _ _ _ (hr _ _ _ h1)
  · rw [sD_60]
    first
    | exact hr _ _ _ h1
    | exact hr _ _ _ (hr _ _ _ h1)
  · rw [sD_61]
    first
    | exact hr _ _ _ h1
    | exact hr _ _ _ (hr _ _ _ h1)
/-- run and ask, by what is left of the depth -/
def rnD : Nat → WM → Int32 → Int32 → Int32 × WM
  | 0, D, _, _ => (0, D)
  | f + 1, D, b, x => if D 0 5 = 0 then (if (decide (b = 10 ∨ b = 11 ∨ b = 12 ∨ b = 13 ∨ b = 20 ∨ b = 30 ∨ b = 31 ∨ b = 40 ∨ b = 41 ∨ b = 50 ∨ b = 51 ∨ b = 60 ∨ b = 61)) = true then stepD (rnD f) (noteD D b) b x else (0, noteD D b)) else (0, D)
theorem rnD_s {f : Nat} {D : WM} {b x : Int32} (h : D 0 5 = 0) (hb : BD b) : rnD (f + 1) D b x = stepD (rnD f) (noteD D b) b x := by
  unfold BD at hb
  show (if D 0 5 = 0 then _ else _) = _
  rw [if_pos h, if_pos (decide_eq_true hb)]
theorem KD.rn : ∀ (f : Nat) {D : WM} (_ : KD D) (b x : Int32), KD (rnD f D b x).2
  | 0, _, h, _, _ => h
  | f + 1, D, h, b, x => by
    unfold rnD
    split
    · split
      · next h2 => exact KD.step (fun D b x hd => KD.rn f hd b x) (h.note b) x (by unfold BD; exact of_decide_eq_true h2)
      · exact h.note b
    · exact h

set_option maxRecDepth 100000 in
set_option maxHeartbeats 4000000 in
theorem c_X0_forget (l : Launch) (G : GE) {ad : Nat → Nat} {M : WM}  : CT l G yX0_forget cX0_forget 1 none 0 [.ref (ad 0)] 2 ad (shD G ad) M (PV (fun u => u = up2 M 0 1 0)) := by
  refine CT.of (own := RX0) rfl rfl (le_b rfl) fun p e s m args below meth c A C0 hr => ?_
  refine AW.lo (ls2 := [(0, _)]) rfl ?_
  refine a_aload_n C0 0 dX0_forget_0 rfl rfl ?_
  refine a_iconst C0 0 dX0_forget_1 rfl ?_
  refine p_X0_15 C0 (lt_b rfl) rfl (lt_b rfl) rfl rfl dX0_forget_2 ?_
  refine a_vret C0 hr dX0_forget_5 ?_
  exact rv_ rfl
set_option maxRecDepth 100000 in
set_option maxHeartbeats 4000000 in
theorem c_X0_note (l : Launch) (G : GE) {ad : Nat → Nat} {M : WM} {b : Int32} (kd : KD M) : CT l G yX0_note cX0_note 2 none 0 [.ref (ad 0), .int b] 2 ad (shD G ad) M (PV (fun u => u = noteD M b)) := by
  refine CT.of (own := RX0) rfl rfl (le_b rfl) fun p e s m args below meth c A C0 hr => ?_
  refine AW.lo (ls2 := [(0, _), (1, _)]) rfl ?_
  refine a_aload_n C0 0 dX0_note_0 rfl rfl ?_
  refine g_X0_15 C0 (lt_b rfl) rfl rfl dX0_note_1 ?_
  refine a_bipush C0 30 dX0_note_4 rfl ?_
  refine a_icmp_ge C0 29 dX0_note_6 rfl (fun h6 => ?_) (fun h6 => ?_)
  · refine a_vret C0 hr dX0_note_29 ?_
    refine rv_ ?_
    unfold noteD
    first
      | exact (if_pos (Int32.not_le.mp h6)).symm
      | exact (if_neg (Int32.not_lt.mpr h6)).symm
  · have hx : IX (M 0 1) (ix (M 0 1)) 30 := by
      obtain ⟨-, n, hn, e⟩ := kd
      rw [e] at h6 ⊢
      refine IX.v (vp_in_nI ?_ (by decide))
      exact Nat.not_le.mp fun q => h6 ((nI_leI (a := 30) (by decide) (by omega)).mpr q)
    refine a_aload_n C0 0 dX0_note_9 rfl rfl ?_
    refine g_X0_11 C0 (lt_b rfl) rfl rfl dX0_note_10 ?_
    refine a_aload_n C0 0 dX0_note_13 rfl rfl ?_
    refine g_X0_15 C0 (lt_b rfl) rfl rfl dX0_note_14 ?_
    refine a_iload_n C0 1 dX0_note_17 rfl rfl ?_
    refine a_iast C0 _ (lt_b rfl) (fun _ => rfl) hx.1 hx.2 dX0_note_18 ?_
    refine a_aload_n C0 0 dX0_note_19 rfl rfl ?_
    refine a_dup C0 dX0_note_20 rfl ?_
    refine g_X0_15 C0 (lt_b rfl) rfl rfl dX0_note_21 ?_
    refine a_iconst C0 1 dX0_note_24 rfl ?_
    refine a_iadd C0 dX0_note_25 ?_
    refine p_X0_15 C0 (lt_b rfl) rfl (lt_b rfl) rfl rfl dX0_note_26 ?_
    refine a_vret C0 hr dX0_note_29 ?_
    refine rv_ ?_
    unfold noteD
    first
      | exact (if_pos (Int32.not_le.mp h6)).symm
      | exact (if_neg (Int32.not_lt.mpr h6)).symm
set_option maxRecDepth 100000 in
set_option maxHeartbeats 4000000 in
theorem c_X0_quotient (l : Launch) (G : GE) {ad : Nat → Nat} {M : WM} {x y : Int32} : CT l G yX0_quotient cX0_quotient 3 (some .int) 0 [.ref (ad 0), .int x, .int y] 2 ad (shD G ad) M (PI (fun r u => r = (quoD M x y).1 ∧ u = (quoD M x y).2)) := by
  refine CT.of (own := RX0) rfl rfl (le_b rfl) fun p e s m args below meth c A C0 hr => ?_
  refine AW.lo (ls2 := [(0, _), (1, _), (2, _)]) rfl ?_
  refine a_iload_n C0 2 dX0_quotient_0 rfl rfl ?_
  refine a_if_ne C0 11 dX0_quotient_1 rfl (fun h1 => ?_) (fun h1 => ?_)
  · refine a_iload_n C0 1 dX0_quotient_11 rfl rfl ?_
    refine a_iload_n C0 2 dX0_quotient_12 rfl rfl ?_
    refine a_idiv C0 dX0_quotient_13 h1 ?_
    refine a_iret C0 hr dX0_quotient_14 ?_
    first
      | exact rd_ (by unfold quoD; rw [if_pos h1]) (by unfold quoD; rw [if_pos h1])
      | exact rd_ (by unfold quoD; rw [if_neg h1]) (by unfold quoD; rw [if_neg h1])
  · refine a_aload_n C0 0 dX0_quotient_4 rfl rfl ?_
    refine a_iconst C0 1 dX0_quotient_5 rfl ?_
    refine p_X0_28 C0 (lt_b rfl) rfl (lt_b rfl) rfl rfl rfl dX0_quotient_6 ?_
    refine a_iconst C0 0 dX0_quotient_9 rfl ?_
    refine a_iret C0 hr dX0_quotient_10 ?_
    first
      | exact rd_ (by unfold quoD; rw [if_pos h1]) (by unfold quoD; rw [if_pos h1])
      | exact rd_ (by unfold quoD; rw [if_neg h1]) (by unfold quoD; rw [if_neg h1])
set_option maxRecDepth 100000 in
set_option maxHeartbeats 4000000 in
theorem run_0 (l : Launch) (G : GE) {ad : Nat → Nat} {M : WM} {b x xd : Int32} (hxd : xd = nI 17) : CT l G yX0_run cX0_run 5 (some .int) (2 * 0 + 1) [.ref (ad 0), .int b, .int x, .int xd] 2 ad (shD G ad) M (PI (fun r u => r = (rnD 0 M b x).1 ∧ u = (rnD 0 M b x).2)) := by
  refine CT.of (own := RX0) rfl rfl (le_b rfl) fun p e s m args below meth c A C0 hr => ?_
  refine AW.lo (ls2 := [(0, _), (1, _), (2, _), (3, _)]) rfl ?_
  refine a_aload_n C0 0 dX0_run_0 rfl rfl ?_
  refine g_X0_28 C0 (lt_b rfl) rfl rfl dX0_run_1 ?_
  refine a_if_ne C0 13 dX0_run_4 rfl (fun h4 => ?_) (fun h4 => ?_)
  · refine a_iconst C0 0 dX0_run_13 rfl ?_
    refine a_iret C0 hr dX0_run_14 ?_
    exact rd_ rfl rfl
  · refine a_iload_n C0 3 dX0_run_7 rfl rfl ?_
    refine a_bipush C0 16 dX0_run_8 rfl ?_
    refine a_icmp_le C0 15 dX0_run_10 rfl (fun h10 => ?_) (fun h10 => ?_)
    · exact absurd h10 (by rw [hxd]; decide)
    · refine a_iconst C0 0 dX0_run_13 rfl ?_
      refine a_iret C0 hr dX0_run_14 ?_
      exact rd_ rfl rfl
set_option maxRecDepth 100000 in
set_option maxHeartbeats 4000000 in
theorem run_s (l : Launch) (G : GE) {ad : Nat → Nat} {M : WM} (f dp : Nat) (hdp : dp + (f + 1) = 17) (hr2 : ∀ (D : WM) (b x xd : Int32), KD D → BD b → xd = nI (dp + 1) → CT l G yX0_run cX0_run 5 (some .int) (2 * f + 1) [.ref (ad 0), .int b, .int x, .int xd] 2 ad (shD G ad) D (PI (fun r u => r = (rnD f D b x).1 ∧ u = (rnD f D b x).2)))
  (ha2 : ∀ (D : WM) (a x xd : Int32), KD D → IX a (ix a) 4 → xd = nI (dp + 1) → CT l G yX0_ask cX0_ask 4 (some .int) (2 * f + 2) [.ref (ad 0), .int a, .int x, .int xd] 2 ad (shD G ad) D (PI (fun r u => r = (rnD f D (bodyD D a) x).1 ∧ u = (rnD f D (bodyD D a) x).2)))
  {b x xd : Int32} (kd : KD M) (hb : BD b) (hxd : xd = nI dp) : CT l G yX0_run cX0_run 5 (some .int) (2 * (f + 1) + 1) [.ref (ad 0), .int b, .int x, .int xd] 2 ad (shD G ad) M (PI (fun r u => r = (rnD (f + 1) M b x).1 ∧ u = (rnD (f + 1) M b x).2)) := by
  refine CT.of (own := RX0) rfl rfl (le_b rfl) fun p e s m args below meth c A C0 hr => ?_
  refine AW.lo (ls2 := [(0, _), (1, _), (2, _), (3, _)]) rfl ?_
  refine a_aload_n C0 0 dX0_run_0 rfl rfl ?_
  refine g_X0_28 C0 (lt_b rfl) rfl rfl dX0_run_1 ?_
  refine a_if_ne C0 13 dX0_run_4 rfl (fun h4 => ?_) (fun h4 => ?_)
  · refine a_iconst C0 0 dX0_run_13 rfl ?_
    refine a_iret C0 hr dX0_run_14 ?_
    first
      | exact rd_ (by unfold rnD; rw [if_neg h4]) (by unfold rnD; rw [if_neg h4])
      | exact absurd (show xd ≤ 16 by rw [hxd]; exact (nI_leI (b := 16) (by omega) (by decide)).mpr (by omega)) h10
  · have hp0 : M 0 5 = 0 := h4
    refine a_iload_n C0 3 dX0_run_7 rfl rfl ?_
    refine a_bipush C0 16 dX0_run_8 rfl ?_
    refine a_icmp_le C0 15 dX0_run_10 rfl (fun h10 => ?_) (fun h10 => ?_)
    · refine a_aload_n C0 0 dX0_run_15 rfl rfl ?_
      refine a_iload_n C0 1 dX0_run_16 rfl rfl ?_
      refine a_callV _ 1 C0 EM.refl (c_X0_note l G kd) u_c_X0_note u_m_X0_42 u_im_X0_note u_se_X0_note u_in_X0 hy_X0_note rfl (lt_b rfl) rfl (hRs (by omega) (by decide)) rfl rfl (le_b rfl) dX0_run_17 (k_vo ?_)
      have hd1 : xd + 1 = nI (dp + 1) := by rw [hxd, nI_1]
      refine a_iload_n C0 3 dX0_run_20 rfl rfl ?_
      refine a_iconst C0 1 dX0_run_21 rfl ?_
      refine a_iadd C0 dX0_run_22 ?_
      refine a_istore (ls2 := [(4, _), (0, _), (1, _), (2, _), (3, _)]) C0 dX0_run_23 (lt_b rfl) rfl ?_
      refine a_iload_n C0 2 dX0_run_25 rfl rfl ?_
      refine a_case 10 (fun h26 => ?_) (fun h26n_10 => ?_)
      · refine a_tsIn C0 248 dX0_run_26 (by decide) (by decide) rfl rfl ?_
        refine a_iload_n C0 3 dX0_run_248 rfl rfl ?_
        refine a_iconst C0 2 dX0_run_249 rfl ?_
        refine a_imul C0 dX0_run_250 ?_
        refine a_aload_n C0 1 dX0_run_251 rfl rfl ?_
        refine g_X0_22 C0 (lt_b rfl) rfl rfl dX0_run_252 ?_
        refine a_isub C0 dX0_run_255 ?_
        refine a_iret C0 hr dX0_run_256 ?_
        subst h26
        refine rd_ ?_ ?_
        all_goals
          rw [rnD_s hp0 hb, sD_10]
          try rfl
      refine a_case 11 (fun h26 => ?_) (fun h26n_11 => ?_)
      · refine a_tsIn C0 257 dX0_run_26 (by decide) (by decide) rfl rfl ?_
        refine a_aload_n C0 1 dX0_run_257 rfl rfl ?_
        refine a_iconst C0 0 dX0_run_258 rfl ?_
        refine a_iload_n C0 3 dX0_run_259 rfl rfl ?_
        refine a_iload C0 0 dX0_run_260 rfl ?_
        refine a_callV _ 3 C0 EM.refl (ha2 _ _ _ _ (by first | exact kd.note _ | exact KD.rn f (kd.note _) _ _) (IX.v (vq rfl)) hd1) u_c_X0_ask u_m_X0_32 u_im_X0_ask u_se_X0_ask u_in_X0 hy_X0_ask rfl (lt_b rfl) rfl (hRs (by omega) (by decide)) rfl rfl (le_b rfl) dX0_run_262 (k_de ?_)
        refine a_aload_n C0 1 dX0_run_265 rfl rfl ?_
        refine g_X0_25 C0 (lt_b rfl) rfl rfl dX0_run_266 ?_
        refine a_iconst C0 4 dX0_run_269 rfl ?_
        refine a_imul C0 dX0_run_270 ?_
        refine a_iadd C0 dX0_run_271 ?_
        refine a_iret C0 hr dX0_run_272 ?_
        subst h26
        refine rd_ ?_ ?_
        all_goals
          rw [rnD_s hp0 hb, sD_11]
          try rfl
      refine a_case 12 (fun h26 => ?_) (fun h26n_12 => ?_)
      · refine a_tsIn C0 273 dX0_run_26 (by decide) (by decide) rfl rfl ?_
        refine a_aload_n C0 1 dX0_run_273 rfl rfl ?_
        refine a_iload_n C0 3 dX0_run_274 rfl rfl ?_
        refine a_aload_n C0 1 dX0_run_275 rfl rfl ?_
        refine g_X0_25 C0 (lt_b rfl) rfl rfl dX0_run_276 ?_
        refine a_aload_n C0 1 dX0_run_279 rfl rfl ?_
        refine g_X0_22 C0 (lt_b rfl) rfl rfl dX0_run_280 ?_
        refine a_isub C0 dX0_run_283 ?_
        refine a_callV _ 2 C0 EM.refl (c_X0_quotient l G) u_c_X0_quotient u_m_X0_46 u_im_X0_quotient u_se_X0_quotient u_in_X0 hy_X0_quotient rfl (lt_b rfl) rfl (hRs (by omega) (by decide)) rfl rfl (le_b rfl) dX0_run_284 (k_de ?_)
        refine a_iret C0 hr dX0_run_287 ?_
        subst h26
        refine rd_ ?_ ?_
        all_goals
          rw [rnD_s hp0 hb, sD_12]
          try rfl
      refine a_case 13 (fun h26 => ?_) (fun h26n_13 => ?_)
      · refine a_tsIn C0 288 dX0_run_26 (by decide) (by decide) rfl rfl ?_
        refine a_aload_n C0 1 dX0_run_288 rfl rfl ?_
        refine a_iconst C0 1 dX0_run_289 rfl ?_
        refine a_iload_n C0 3 dX0_run_290 rfl rfl ?_
        refine a_iload C0 0 dX0_run_291 rfl ?_
        refine a_callV _ 3 C0 EM.refl (ha2 _ _ _ _ (by first | exact kd.note _ | exact KD.rn f (kd.note _) _ _) (IX.v (vq rfl)) hd1) u_c_X0_ask u_m_X0_32 u_im_X0_ask u_se_X0_ask u_in_X0 hy_X0_ask rfl (lt_b rfl) rfl (hRs (by omega) (by decide)) rfl rfl (le_b rfl) dX0_run_293 (k_de ?_)
        refine a_sipush C0 160 dX0_run_296 rfl ?_
        refine a_ixor C0 dX0_run_299 ?_
        refine a_iret C0 hr dX0_run_300 ?_
        subst h26
        refine rd_ ?_ ?_
        all_goals
          rw [rnD_s hp0 hb, sD_13]
          try rfl
      refine a_case 20 (fun h26 => ?_) (fun h26n_20 => ?_)
      · refine a_tsIn C0 301 dX0_run_26 (by decide) (by decide) rfl rfl ?_
        refine a_aload_n C0 1 dX0_run_301 rfl rfl ?_
        refine a_bipush C0 11 dX0_run_302 rfl ?_
        refine a_iload_n C0 3 dX0_run_304 rfl rfl ?_
        refine a_iload C0 0 dX0_run_305 rfl ?_
        refine a_callV _ 3 C0 EM.refl (hr2 _ _ _ _ (kd.note _) (by unfold BD; decide) hd1) u_c_X0_run u_m_X0_39 u_im_X0_run u_se_X0_run u_in_X0 hy_X0_run rfl (lt_b rfl) rfl (hRs (by omega) (by decide)) rfl rfl (le_b rfl) dX0_run_307 (k_de ?_)
        refine a_iconst C0 1 dX0_run_310 rfl ?_
        refine a_isub C0 dX0_run_311 ?_
        refine a_iret C0 hr dX0_run_312 ?_
        subst h26
        refine rd_ ?_ ?_
        all_goals
          rw [rnD_s hp0 hb, sD_20]
          try rfl
      refine a_case 30 (fun h26 => ?_) (fun h26n_30 => ?_)
      · refine a_tsIn C0 313 dX0_run_26 (by decide) (by decide) rfl rfl ?_
        refine a_iconst C0 0 dX0_run_313 rfl ?_
        refine a_aload_n C0 1 dX0_run_314 rfl rfl ?_
        refine a_bipush C0 10 dX0_run_315 rfl ?_
        refine a_iload_n C0 3 dX0_run_317 rfl rfl ?_
        refine a_iload C0 0 dX0_run_318 rfl ?_
        refine a_callV _ 3 C0 EM.refl (hr2 _ _ _ _ (kd.note _) (by unfold BD; decide) hd1) u_c_X0_run u_m_X0_39 u_im_X0_run u_se_X0_run u_in_X0 hy_X0_run rfl (lt_b rfl) rfl (hRs (by omega) (by decide)) rfl rfl (le_b rfl) dX0_run_320 (k_de ?_)
        refine a_isub C0 dX0_run_323 ?_
        refine a_iret C0 hr dX0_run_324 ?_
        subst h26
        refine rd_ ?_ ?_
        all_goals
          rw [rnD_s hp0 hb, sD_30]
          try rfl
      refine a_case 31 (fun h26 => ?_) (fun h26n_31 => ?_)
      · refine a_tsIn C0 325 dX0_run_26 (by decide) (by decide) rfl rfl ?_
        refine a_aload_n C0 1 dX0_run_325 rfl rfl ?_
        refine a_bipush C0 13 dX0_run_326 rfl ?_
        refine a_iload_n C0 3 dX0_run_328 rfl rfl ?_
        refine a_iload C0 0 dX0_run_329 rfl ?_
        refine a_callV _ 3 C0 EM.refl (hr2 _ _ _ _ (kd.note _) (by unfold BD; decide) hd1) u_c_X0_run u_m_X0_39 u_im_X0_run u_se_X0_run u_in_X0 hy_X0_run rfl (lt_b rfl) rfl (hRs (by omega) (by decide)) rfl rfl (le_b rfl) dX0_run_331 (k_de ?_)
        refine a_aload_n C0 1 dX0_run_334 rfl rfl ?_
        refine a_iconst C0 2 dX0_run_335 rfl ?_
        refine a_aload_n C0 1 dX0_run_336 rfl rfl ?_
        refine g_X0_22 C0 (lt_b rfl) rfl rfl dX0_run_337 ?_
        refine a_iload C0 0 dX0_run_340 rfl ?_
        refine a_callV _ 3 C0 EM.refl (ha2 _ _ _ _ (by first | exact kd.note _ | exact KD.rn f (kd.note _) _ _) (IX.v (vq rfl)) hd1) u_c_X0_ask u_m_X0_32 u_im_X0_ask u_se_X0_ask u_in_X0 hy_X0_ask rfl (lt_b rfl) rfl (hRs (by omega) (by decide)) rfl rfl (le_b rfl) dX0_run_342 (k_de ?_)
        refine a_iadd C0 dX0_run_345 ?_
        refine a_iret C0 hr dX0_run_346 ?_
        subst h26
        refine rd_ ?_ ?_
        all_goals
          rw [rnD_s hp0 hb, sD_31]
          try rfl
      refine a_case 40 (fun h26 => ?_) (fun h26n_40 => ?_)
      · refine a_tsIn C0 347 dX0_run_26 (by decide) (by decide) rfl rfl ?_
        refine a_aload_n C0 1 dX0_run_347 rfl rfl ?_
        refine a_bipush C0 30 dX0_run_348 rfl ?_
        refine a_iload_n C0 3 dX0_run_350 rfl rfl ?_
        refine a_iload C0 0 dX0_run_351 rfl ?_
        refine a_callV _ 3 C0 EM.refl (hr2 _ _ _ _ (kd.note _) (by unfold BD; decide) hd1) u_c_X0_run u_m_X0_39 u_im_X0_run u_se_X0_run u_in_X0 hy_X0_run rfl (lt_b rfl) rfl (hRs (by omega) (by decide)) rfl rfl (le_b rfl) dX0_run_353 (k_de ?_)
        refine a_iconst C0 3 dX0_run_356 rfl ?_
        refine a_imul C0 dX0_run_357 ?_
        refine a_iret C0 hr dX0_run_358 ?_
        subst h26
        refine rd_ ?_ ?_
        all_goals
          rw [rnD_s hp0 hb, sD_40]
          try rfl
      refine a_case 41 (fun h26 => ?_) (fun h26n_41 => ?_)
      · refine a_tsIn C0 359 dX0_run_26 (by decide) (by decide) rfl rfl ?_
        refine a_aload_n C0 1 dX0_run_359 rfl rfl ?_
        refine a_bipush C0 11 dX0_run_360 rfl ?_
        refine a_iload_n C0 3 dX0_run_362 rfl rfl ?_
        refine a_iload C0 0 dX0_run_363 rfl ?_
        refine a_callV _ 3 C0 EM.refl (hr2 _ _ _ _ (kd.note _) (by unfold BD; decide) hd1) u_c_X0_run u_m_X0_39 u_im_X0_run u_se_X0_run u_in_X0 hy_X0_run rfl (lt_b rfl) rfl (hRs (by omega) (by decide)) rfl rfl (le_b rfl) dX0_run_365 (k_de ?_)
        refine a_aload_n C0 1 dX0_run_368 rfl rfl ?_
        refine a_iconst C0 0 dX0_run_369 rfl ?_
        refine a_aload_n C0 1 dX0_run_370 rfl rfl ?_
        refine g_X0_25 C0 (lt_b rfl) rfl rfl dX0_run_371 ?_
        refine a_iload C0 0 dX0_run_374 rfl ?_
        refine a_callV _ 3 C0 EM.refl (ha2 _ _ _ _ (by first | exact kd.note _ | exact KD.rn f (kd.note _) _ _) (IX.v (vq rfl)) hd1) u_c_X0_ask u_m_X0_32 u_im_X0_ask u_se_X0_ask u_in_X0 hy_X0_ask rfl (lt_b rfl) rfl (hRs (by omega) (by decide)) rfl rfl (le_b rfl) dX0_run_376 (k_de ?_)
        refine a_ixor C0 dX0_run_379 ?_
        refine a_iret C0 hr dX0_run_380 ?_
        subst h26
        refine rd_ ?_ ?_
        all_goals
          rw [rnD_s hp0 hb, sD_41]
          try rfl
      refine a_case 50 (fun h26 => ?_) (fun h26n_50 => ?_)
      · refine a_tsIn C0 381 dX0_run_26 (by decide) (by decide) rfl rfl ?_
        refine a_aload_n C0 1 dX0_run_381 rfl rfl ?_
        refine a_bipush C0 12 dX0_run_382 rfl ?_
        refine a_iload_n C0 3 dX0_run_384 rfl rfl ?_
        refine a_bipush C0 8 dX0_run_385 rfl ?_
        refine a_iadd C0 dX0_run_387 ?_
        refine a_iload C0 0 dX0_run_388 rfl ?_
        refine a_callV _ 3 C0 EM.refl (hr2 _ _ _ _ (kd.note _) (by unfold BD; decide) hd1) u_c_X0_run u_m_X0_39 u_im_X0_run u_se_X0_run u_in_X0 hy_X0_run rfl (lt_b rfl) rfl (hRs (by omega) (by decide)) rfl rfl (le_b rfl) dX0_run_390 (k_de ?_)
        refine a_aload_n C0 1 dX0_run_393 rfl rfl ?_
        refine g_X0_22 C0 (lt_b rfl) rfl rfl dX0_run_394 ?_
        refine a_isub C0 dX0_run_397 ?_
        refine a_iret C0 hr dX0_run_398 ?_
        subst h26
        refine rd_ ?_ ?_
        all_goals
          rw [rnD_s hp0 hb, sD_50]
          try rfl
      refine a_case 51 (fun h26 => ?_) (fun h26n_51 => ?_)
      · refine a_tsIn C0 399 dX0_run_26 (by decide) (by decide) rfl rfl ?_
        refine a_aload_n C0 1 dX0_run_399 rfl rfl ?_
        refine a_bipush C0 10 dX0_run_400 rfl ?_
        refine a_iload_n C0 3 dX0_run_402 rfl rfl ?_
        refine a_iload C0 0 dX0_run_403 rfl ?_
        refine a_callV _ 3 C0 EM.refl (hr2 _ _ _ _ (kd.note _) (by unfold BD; decide) hd1) u_c_X0_run u_m_X0_39 u_im_X0_run u_se_X0_run u_in_X0 hy_X0_run rfl (lt_b rfl) rfl (hRs (by omega) (by decide)) rfl rfl (le_b rfl) dX0_run_405 (k_de ?_)
        refine a_aload_n C0 1 dX0_run_408 rfl rfl ?_
        refine g_X0_25 C0 (lt_b rfl) rfl rfl dX0_run_409 ?_
        refine a_iadd C0 dX0_run_412 ?_
        refine a_iret C0 hr dX0_run_413 ?_
        subst h26
        refine rd_ ?_ ?_
        all_goals
          rw [rnD_s hp0 hb, sD_51]
          try rfl
      refine a_case 60 (fun h26 => ?_) (fun h26n_60 => ?_)
      · refine a_tsIn C0 414 dX0_run_26 (by decide) (by decide) rfl rfl ?_
        refine a_aload_n C0 1 dX0_run_414 rfl rfl ?_
        refine a_bipush C0 13 dX0_run_415 rfl ?_
        refine a_iload_n C0 3 dX0_run_417 rfl rfl ?_
        refine a_iload C0 0 dX0_run_418 rfl ?_
        refine a_callV _ 3 C0 EM.refl (hr2 _ _ _ _ (kd.note _) (by unfold BD; decide) hd1) u_c_X0_run u_m_X0_39 u_im_X0_run u_se_X0_run u_in_X0 hy_X0_run rfl (lt_b rfl) rfl (hRs (by omega) (by decide)) rfl rfl (le_b rfl) dX0_run_420 (k_de ?_)
        refine a_bipush C0 6 dX0_run_423 rfl ?_
        refine a_isub C0 dX0_run_425 ?_
        refine a_iret C0 hr dX0_run_426 ?_
        subst h26
        refine rd_ ?_ ?_
        all_goals
          rw [rnD_s hp0 hb, sD_60]
          try rfl
      refine a_case 61 (fun h26 => ?_) (fun h26n_61 => ?_)
      · refine a_tsIn C0 427 dX0_run_26 (by decide) (by decide) rfl rfl ?_
        refine a_aload_n C0 1 dX0_run_427 rfl rfl ?_
        refine a_bipush C0 12 dX0_run_428 rfl ?_
        refine a_iload_n C0 3 dX0_run_430 rfl rfl ?_
        refine a_iload C0 0 dX0_run_431 rfl ?_
        refine a_callV _ 3 C0 EM.refl (hr2 _ _ _ _ (kd.note _) (by unfold BD; decide) hd1) u_c_X0_run u_m_X0_39 u_im_X0_run u_se_X0_run u_in_X0 hy_X0_run rfl (lt_b rfl) rfl (hRs (by omega) (by decide)) rfl rfl (le_b rfl) dX0_run_433 (k_de ?_)
        refine a_aload_n C0 1 dX0_run_436 rfl rfl ?_
        refine a_iconst C0 0 dX0_run_437 rfl ?_
        refine a_aload_n C0 1 dX0_run_438 rfl rfl ?_
        refine g_X0_22 C0 (lt_b rfl) rfl rfl dX0_run_439 ?_
        refine a_iload C0 0 dX0_run_442 rfl ?_
        refine a_callV _ 3 C0 EM.refl (ha2 _ _ _ _ (by first | exact kd.note _ | exact KD.rn f (kd.note _) _ _) (IX.v (vq rfl)) hd1) u_c_X0_ask u_m_X0_32 u_im_X0_ask u_se_X0_ask u_in_X0 hy_X0_ask rfl (lt_b rfl) rfl (hRs (by omega) (by decide)) rfl rfl (le_b rfl) dX0_run_444 (k_de ?_)
        refine a_imul C0 dX0_run_447 ?_
        refine a_iret C0 hr dX0_run_448 ?_
        subst h26
        refine rd_ ?_ ?_
        all_goals
          rw [rnD_s hp0 hb, sD_61]
          try rfl
      unfold BD at hb
      rcases hb with h | h | h | h | h | h | h | h | h | h | h | h | h
      · exact absurd h h26n_10
      · exact absurd h h26n_11
      · exact absurd h h26n_12
      · exact absurd h h26n_13
      · exact absurd h h26n_20
      · exact absurd h h26n_30
      · exact absurd h h26n_31
      · exact absurd h h26n_40
      · exact absurd h h26n_41
      · exact absurd h h26n_50
      · exact absurd h h26n_51
      · exact absurd h h26n_60
      · exact absurd h h26n_61
    · refine a_iconst C0 0 dX0_run_13 rfl ?_
      refine a_iret C0 hr dX0_run_14 ?_
      first
        | exact rd_ (by unfold rnD; rw [if_neg h4]) (by unfold rnD; rw [if_neg h4])
        | exact absurd (show xd ≤ 16 by rw [hxd]; exact (nI_leI (b := 16) (by omega) (by decide)).mpr (by omega)) h10
set_option maxRecDepth 100000 in
set_option maxHeartbeats 4000000 in
theorem ask_s (l : Launch) (G : GE) {ad : Nat → Nat} {M : WM} (f dp : Nat) (hr2 : ∀ (D : WM) (b x xd : Int32), KD D → BD b → xd = nI dp → CT l G yX0_run cX0_run 5 (some .int) (2 * f + 1) [.ref (ad 0), .int b, .int x, .int xd] 2 ad (shD G ad) D (PI (fun r u => r = (rnD f D b x).1 ∧ u = (rnD f D b x).2)))
  {a x xd : Int32} (kd : KD M) (ha : IX a (ix a) 4) (hxd : xd = nI dp) : CT l G yX0_ask cX0_ask 4 (some .int) (2 * f + 2) [.ref (ad 0), .int a, .int x, .int xd] 2 ad (shD G ad) M (PI (fun r u => r = (rnD f M (bodyD M a) x).1 ∧ u = (rnD f M (bodyD M a) x).2)) := by
  refine CT.of (own := RX0) rfl rfl (le_b rfl) fun p e s m args below meth c A C0 hr => ?_
  refine AW.lo (ls2 := [(0, _), (1, _), (2, _), (3, _)]) rfl ?_
  refine a_aload_n C0 0 dX0_ask_0 rfl rfl ?_
  refine a_getsN C0 3 (lt_b rfl) C0.nw.1 dX0_ask_1 ?_
  refine a_aload_n C0 0 dX0_ask_4 rfl rfl ?_
  refine g_X0_19 C0 (lt_b rfl) rfl rfl dX0_ask_5 ?_
  refine a_iconst C0 4 dX0_ask_8 rfl ?_
  refine a_imul C0 dX0_ask_9 ?_
  refine a_iload_n C0 1 dX0_ask_10 rfl rfl ?_
  refine a_iadd C0 dX0_ask_11 ?_
  refine a_ti C0 3 _ (lt_b rfl) (kd.body ha).1.1 rfl dX0_ask_12 ?_
  refine a_iload_n C0 2 dX0_ask_13 rfl rfl ?_
  refine a_iload_n C0 3 dX0_ask_14 rfl rfl ?_
  refine a_callV _ 3 C0 EM.refl (hr2 _ _ _ _ kd (kd.body ha).2 hxd) u_c_X0_run u_m_X0_39 u_im_X0_run u_se_X0_run u_in_X0 hy_X0_run rfl (lt_b rfl) rfl (hRs (by omega) (by decide)) rfl rfl (le_b rfl) dX0_ask_15 (k_de ?_)
  refine a_iret C0 hr dX0_ask_18 ?_
  exact rd_ rfl rfl

theorem run_ask (l : Launch) (G : GE) {ad : Nat → Nat} : ∀ (f dp : Nat), dp + f = 17 → (∀ (D : WM) (b x xd : Int32), KD D → BD b → xd = nI dp → CT l G yX0_run cX0_run 5 (some .int) (2 * f + 1) [.ref (ad 0), .int b, .int x, .int xd] 2 ad (shD G ad) D (PI (fun r u => r = (rnD f D b x).1 ∧ u = (rnD f D b x).2))) ∧
  (∀ (D : WM) (a x xd : Int32), KD D → IX a (ix a) 4 → xd = nI dp → CT l G yX0_ask cX0_ask 4 (some .int) (2 * f + 2) [.ref (ad 0), .int a, .int x, .int xd] 2 ad (shD G ad) D (PI (fun r u => r = (rnD f D (bodyD D a) x).1 ∧ u = (rnD f D (bodyD D a) x).2)))
  | 0, dp, h => by
    have h17 : dp = 17 := by omega
    subst h17
    have hr2 : ∀ (D : WM) (b x xd : Int32), KD D → BD b → xd = nI 17 → CT l G yX0_run cX0_run 5 (some .int) (2 * 0 + 1) [.ref (ad 0), .int b, .int x, .int xd] 2 ad (shD G ad) D (PI (fun r u => r = (rnD 0 D b x).1 ∧ u = (rnD 0 D b x).2)) := fun D b x xd _ _ hx => run_0 l G hx
    exact ⟨hr2, fun D a x xd kd ha hx => ask_s l G 0 17 hr2 kd ha hx⟩
  | f + 1, dp, h => by
    obtain ⟨h1, h2⟩ := run_ask l G f (dp + 1) (by omega)
    have hr2 : ∀ (D : WM) (b x xd : Int32), KD D → BD b → xd = nI dp → CT l G yX0_run cX0_run 5 (some .int) (2 * (f + 1) + 1) [.ref (ad 0), .int b, .int x, .int xd] 2 ad (shD G ad) D (PI (fun r u => r = (rnD (f + 1) D b x).1 ∧ u = (rnD (f + 1) D b x).2)) := fun D b x xd kd hb hx => run_s l G f dp h h1 h2 kd hb hx
    exact ⟨hr2, fun D a x xd kd ha hx => ask_s l G (f + 1) dp hr2 kd ha hx⟩
def perfD (D : WM) (k n h a x : Int32) : Int32 × WM :=
  let D1 := up2 (up2 (up2 (up2 D 0 2 k) 0 3 n) 0 4 h) 0 5 0
  let q := rnD 17 D1 (bodyD D1 a) x
  (if q.2 0 5 = 0 then q.1 else -15, q.2)

set_option maxRecDepth 100000 in
set_option maxHeartbeats 4000000 in
theorem c_X0_perform (l : Launch) (G : GE) {ad : Nat → Nat} {M : WM} {k n h a x : Int32} (hk : ∃ j, j < 6 ∧ k = nI j) (hc : ∃ j, j ≤ 30 ∧ M 0 1 = nI j) (ha : IX a (ix a) 4) : CT l G yX0_perform cX0_perform 7 (some .int) 37 [.ref (ad 0), .int k, .int n, .int h, .int a, .int x] 2 ad (shD G ad) M (PI (fun r u => r = (perfD M k n h a x).1 ∧ u = (perfD M k n h a x).2)) := by
  refine CT.of (own := RX0) rfl rfl (le_b rfl) fun p e s m args below meth c A C0 hr => ?_
  refine AW.lo (ls2 := [(0, _), (1, _), (2, _), (3, _), (4, _), (5, _)]) rfl ?_
  refine a_aload_n C0 0 dX0_perform_0 rfl rfl ?_
  refine a_iload_n C0 1 dX0_perform_1 rfl rfl ?_
  refine p_X0_19 C0 (lt_b rfl) rfl (lt_b rfl) rfl rfl dX0_perform_2 ?_
  refine a_aload_n C0 0 dX0_perform_5 rfl rfl ?_
  refine a_iload_n C0 2 dX0_perform_6 rfl rfl ?_
  refine p_X0_22 C0 (lt_b rfl) rfl (lt_b rfl) rfl rfl dX0_perform_7 ?_
  refine a_aload_n C0 0 dX0_perform_10 rfl rfl ?_
  refine a_iload_n C0 3 dX0_perform_11 rfl rfl ?_
  refine p_X0_25 C0 (lt_b rfl) rfl (lt_b rfl) rfl rfl dX0_perform_12 ?_
  refine a_aload_n C0 0 dX0_perform_15 rfl rfl ?_
  refine a_iconst C0 0 dX0_perform_16 rfl ?_
  refine p_X0_28 C0 (lt_b rfl) rfl (lt_b rfl) rfl rfl rfl dX0_perform_17 ?_
  refine a_aload_n C0 0 dX0_perform_20 rfl rfl ?_
  refine a_iload C0 4 dX0_perform_21 rfl ?_
  refine a_iload C0 5 dX0_perform_23 rfl ?_
  refine a_iconst C0 0 dX0_perform_25 rfl ?_
  refine a_callV _ 3 C0 EM.refl ((run_ask l G 17 0 rfl).2 _ _ _ _ ⟨hk, hc⟩ ha rfl) u_c_X0_ask u_m_X0_32 u_im_X0_ask u_se_X0_ask u_in_X0 hy_X0_ask rfl (lt_b rfl) rfl (hRk rfl) rfl rfl (le_b rfl) dX0_perform_26 (k_de ?_)
  refine a_istore (ls2 := [(6, _), (0, _), (1, _), (2, _), (3, _), (4, _), (5, _)]) C0 dX0_perform_29 (lt_b rfl) rfl ?_
  refine a_aload_n C0 1 dX0_perform_31 rfl rfl ?_
  refine g_X0_28 C0 (lt_b rfl) rfl rfl dX0_perform_32 ?_
  refine a_if_eq C0 43 dX0_perform_35 rfl (fun h35 => ?_) (fun h35 => ?_)
  · refine a_iload C0 0 dX0_perform_43 rfl ?_
    refine a_iret C0 hr dX0_perform_45 ?_
    first
      | exact rd_ (by unfold perfD; exact (if_pos h35).symm) rfl
      | exact rd_ (by unfold perfD; exact (if_neg h35).symm) rfl
  · refine a_bipush C0 (-15) dX0_perform_38 rfl ?_
    refine a_goto C0 45 dX0_perform_40 rfl ?_
    refine a_iret C0 hr dX0_perform_45 ?_
    first
      | exact rd_ (by unfold perfD; exact (if_pos h35).symm) rfl
      | exact rd_ (by unfold perfD; exact (if_neg h35).symm) rfl
