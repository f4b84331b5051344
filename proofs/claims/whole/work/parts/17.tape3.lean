
/-! tokens, and the reading of the text: P the Parish told so far, t the token at which the Tape stands -/
def tk (b : Nat → Int32) (n e : Nat) : Tk := (tokK b n (skB b n (n - e) e), skB b n (n - e) e, tokE b n (skB b n (n - e) e))
def numT (b : Nat → Int32) (t : Tk) : Int32 := nmB b (t.2.2 - t.2.1) t.2.1 0
abbrev nuT (b : Nat → Int32) (t : Tk) (v : Int32) : Prop := t.1 = 2 ∧ t.2.2 - t.2.1 ≤ 3 ∧ numT b t ≤ v
def TKS (D : WM) (b : Nat → Int32) (n : Nat) (t : Tk) : Prop := TK D n t.1 t.2.1 t.2.2 ∧ D 1 = b ∧ ∃ e0, e0 ≤ n ∧ t = tk b n e0
theorem TKS.ts {D : WM} {b : Nat → Int32} {n : Nat} {t : Tk} (h : TKS D b n t) : TS D n t.2.2 := h.1.ts
theorem TS.adv2 {D : WM} {b : Nat → Int32} {n e : Nat} (h : TS D n e) (hb : D 1 = b) : TKS (advB D n e) b n (tk b n e) := by
  subst hb
  exact ⟨h.adv, rfl, e, h.2.2.2, rfl⟩
theorem TKS.adv {D : WM} {b : Nat → Int32} {n : Nat} {t : Tk} (h : TKS D b n t) : TKS (advB D n t.2.2) b n (tk b n t.2.2) := TS.adv2 h.ts h.2.1
theorem spB_all (b : Nat → Int32) (n : Nat) (lo hi : Int32) : ∀ f s i, s ≤ i → i < spB b n lo hi f s → lo ≤ b i ∧ b i ≤ hi
  | 0, s, i, h1, h2 => absurd h2 (by show ¬ i < s; omega)
  | f + 1, s, i, h1, h2 => by
    unfold spB at h2
    split at h2
    · next h3 =>
      by_cases h4 : i = s
      · rw [h4]
        exact h3.2
      · exact spB_all b n lo hi f (s + 1) i (by omega) h2
    · omega
theorem tk_dig {b : Nat → Int32} {n e0 : Nat} (h : (tk b n e0).1 = 2) : ∀ i, (tk b n e0).2.1 ≤ i → i < (tk b n e0).2.2 → 48 ≤ b i ∧ b i ≤ 57 := by
  intro i h1 h2
  have h : tokK b n (skB b n (n - e0) e0) = 2 := h
  have h1 : skB b n (n - e0) e0 ≤ i := h1
  have h2 : i < tokE b n (skB b n (n - e0) e0) := h2
  generalize skB b n (n - e0) e0 = s at h h1 h2
  unfold tokK at h
  unfold tokE at h2
  by_cases c1 : n ≤ s
  · rw [if_pos c1] at h
    omega
  · rw [if_neg c1] at h h2
    by_cases c2 : 97 ≤ b s ∧ b s ≤ 122
    · rw [if_pos c2] at h
      omega
    · rw [if_neg c2] at h h2
      by_cases c3 : 48 ≤ b s ∧ b s ≤ 57
      · rw [if_pos c3] at h h2
        exact spB_all b n 48 57 _ _ i h1 h2
      · rw [if_neg c3] at h
        omega
theorem dig_N {x : Int32} (h : 48 ≤ x ∧ x ≤ 57) : ∃ d, d < 10 ∧ x - 48 = nI d := by
  have h1 : (48 : Int) ≤ x.toInt := Int32.le_iff_toInt_le.mp h.1
  have h2 : x.toInt ≤ 57 := Int32.le_iff_toInt_le.mp h.2
  refine ⟨(x.toInt - 48).toNat, by omega, ?_⟩
  apply Int32.toInt_inj.mp
  rw [nI_toInt (by omega), Int32.toInt_sub]
  show (x.toInt - 48).bmod (2 ^ 32) = _
  rw [Int.bmod_eq_of_le (by omega) (by omega)]
  omega
theorem nmB_N (b : Nat → Int32) : ∀ f s a, f ≤ 3 → a ≤ 1000 → (∀ i, s ≤ i → i < s + f → 48 ≤ b i ∧ b i ≤ 57) → ∃ r, r ≤ 2000000 ∧ nmB b f s (nI a) = nI r
  | 0, s, a, _, ha, _ => ⟨a, by omega, rfl⟩
  | 1, s, a, _, ha, h => by
    obtain ⟨d, hd, e⟩ := dig_N (h s (Nat.le_refl _) (by omega))
    refine ⟨a * 10 + d, by omega, ?_⟩
    show nI a * 10 + (b s - 48) = _
    rw [e, show (10 : Int32) = nI 10 from rfl, pk_mul, nI_add]
  | 2, s, a, _, ha, h => by
    obtain ⟨d, hd, e⟩ := dig_N (h s (Nat.le_refl _) (by omega))
    obtain ⟨d2, hd2, e2⟩ := dig_N (h (s + 1) (by omega) (by omega))
    refine ⟨(a * 10 + d) * 10 + d2, by omega, ?_⟩
    show (nI a * 10 + (b s - 48)) * 10 + (b (s + 1) - 48) = _
    rw [e, e2, show (10 : Int32) = nI 10 from rfl, pk_mul, nI_add, pk_mul, nI_add]
  | 3, s, a, _, ha, h => by
    obtain ⟨d, hd, e⟩ := dig_N (h s (Nat.le_refl _) (by omega))
    obtain ⟨d2, hd2, e2⟩ := dig_N (h (s + 1) (by omega) (by omega))
    obtain ⟨d3, hd3, e3⟩ := dig_N (h (s + 1 + 1) (by omega) (by omega))
    refine ⟨((a * 10 + d) * 10 + d2) * 10 + d3, by omega, ?_⟩
    show ((nI a * 10 + (b s - 48)) * 10 + (b (s + 1) - 48)) * 10 + (b (s + 1 + 1) - 48) = _
    rw [e, e2, e3, show (10 : Int32) = nI 10 from rfl, pk_mul, nI_add, pk_mul, nI_add, pk_mul, nI_add]
  | f + 4, _, _, h, _, _ => absurd h (by omega)
/-- a number of at most three digits, as told: 0 or more -/
theorem TKS.num {D : WM} {b : Nat → Int32} {n : Nat} {t : Tk} (h : TKS D b n t) {v : Int32} (hv : nuT b t v) : ∃ r, r ≤ 2000000 ∧ numT b t = nI r := by
  obtain ⟨⟨-, -, -, -, -, -, h7, -, -⟩, -, e0, -, he⟩ := h
  refine nmB_N b _ _ 0 hv.2.1 (by omega) fun i h1 h2 => ?_
  have hd := tk_dig (b := b) (n := n) (e0 := e0) (by rw [← he]; exact hv.1)
  rw [← he] at hd
  exact hd i h1 (by omega)
theorem TKS.idx {D : WM} {b : Nat → Int32} {n : Nat} {t : Tk} (h : TKS D b n t) (hv : nuT b t 7) : vp_in (numT b t) 8 := by
  obtain ⟨r, hr, e⟩ := h.num hv
  have := hv.2.2
  rw [e] at this ⊢
  exact vp_in_nI (by have := (nI_leI (b := 7) (by omega) (by decide)).mp this; omega) (by decide)
/-! the world of a Parish and a Tape -/
def mkT (P D : WM) : WM := fun c => if c < 8 then P c else D (c - 8)
theorem em_TBc {G : GE} {ad : Nat → Nat} {P D : WM} : EM 10 2 ad (fun k => ad (8 + k)) (shT G ad) (shB G (fun k => ad (8 + k))) (mkT P D) D (mkT P) := by
  refine ⟨fun k => 8 + k, fun k h => ⟨by show 8 + k < 10; omega, rfl, ?_, ?_⟩, fun j k _ _ h => by have h : 8 + j = 8 + k := h; omega, fun u => ⟨fun k h => ?_, fun i hi h => ?_⟩⟩
  · match k, h with
    | 0, _ => rfl
    | 1, _ => rfl
  · intro f
    match k, h with
    | 0, _ => rfl
    | 1, _ => rfl
  · match k, h with
    | 0, _ => rfl
    | 1, _ => rfl
  · by_cases h8 : i < 8
    · show mkT P u i = mkT P D i
      unfold mkT
      rw [if_pos h8, if_pos h8]
    · exact absurd (show 8 + (i - 8) = i by omega) (h (i - 8) (by omega))
theorem em_TPc {G : GE} {ad : Nat → Nat} {P D : WM} : EM 10 8 ad (fun k => ad (0 + k)) (shT G ad) (shP G (fun k => ad (0 + k))) (mkT P D) P (fun u => mkT u D) := by
  refine ⟨fun k => 0 + k, fun k h => ⟨by show 0 + k < 10; omega, rfl, ?_, ?_⟩, fun j k _ _ h => by have h : 0 + j = 0 + k := h; omega, fun u => ⟨fun k h => ?_, fun i hi h => ?_⟩⟩
  · show P k = mkT P D (0 + k)
    unfold mkT
    rw [if_pos (by omega), Nat.zero_add]
  · intro f
    match k, h with
    | 0, _ => rfl
    | 1, _ => rfl
    | 2, _ => rfl
    | 3, _ => rfl
    | 4, _ => rfl
    | 5, _ => rfl
    | 6, _ => rfl
    | 7, _ => rfl
  · show mkT u D (0 + k) = u k
    unfold mkT
    rw [if_pos (by omega), Nat.zero_add]
  · show mkT u D i = mkT P D i
    unfold mkT
    by_cases h8 : i < 8
    · exact absurd (Nat.zero_add i) (h i h8)
    · rw [if_neg h8, if_neg h8]
theorem mkT_up {P D : WM} {q i : Nat} {v : Int32} (h : q < 8) : up2 (mkT P D) q i v = mkT (up2 P q i v) D := by
  funext a b
  unfold up2 mkT
  by_cases ha : a = q
  · subst ha
    rw [if_pos rfl, if_pos h, if_pos h]
    show _ = if a = a then _ else _
    rw [if_pos rfl]
  · rw [if_neg ha]
    by_cases h8 : a < 8
    · rw [if_pos h8, if_pos h8]
      show _ = if a = q then _ else _
      rw [if_neg ha]
    · rw [if_neg h8, if_neg h8]
def kdT (b : Nat → Int32) (t : Tk) : Int32 := if nmT b t 0 = true then 0 else if nmT b t 1 = true then 1 else if nmT b t 2 = true then 2 else if nmT b t 3 = true then 3 else if nmT b t 4 = true then 4 else if nmT b t 5 = true then 5 else -1
def lwT (b : Nat → Int32) (t : Tk) : Int32 := if nmT b t 6 = true then 0 else if nmT b t 7 = true then 1 else if nmT b t 8 = true then 2 else if nmT b t 9 = true then 3 else -1
def topL (law : Int32) : Int32 := (st_vals 1).getD (ix law) 0
abbrev RS : Type := Bool × WM × Tk
def semiR (b : Nat → Int32) (n : Nat) (P : WM) (t : Tk) : RS := if t.1 = 3 ∧ b t.2.1 = 59 then (true, P, tk b n t.2.2) else (false, P, t)
def rdTale (b : Nat → Int32) (n : Nat) (kind : Int32) (P : WM) (t0 : Tk) : RS :=
  if P 0 8 < 8 then
    if nmT b (tk b n t0.2.2) 13 = true then
      if nuT b (tk b n (tk b n t0.2.2).2.2) 7 then
        if nmT b (tk b n (tk b n (tk b n t0.2.2).2.2).2.2) 14 = true then
          if nuT b (tk b n (tk b n (tk b n (tk b n t0.2.2).2.2).2.2).2.2) 99 then
            semiR b n (addP P (ix (P 0 8)) kind (numT b (tk b n (tk b n (tk b n (tk b n t0.2.2).2.2).2.2).2.2)) (numT b (tk b n (tk b n t0.2.2).2.2))) (tk b n (tk b n (tk b n (tk b n (tk b n t0.2.2).2.2).2.2).2.2).2.2)
          else (false, P, tk b n (tk b n (tk b n (tk b n t0.2.2).2.2).2.2).2.2)
        else semiR b n (addP P (ix (P 0 8)) kind 50 (numT b (tk b n (tk b n t0.2.2).2.2))) (tk b n (tk b n (tk b n t0.2.2).2.2).2.2)
      else (false, P, tk b n (tk b n t0.2.2).2.2)
    else (false, P, tk b n t0.2.2)
  else (false, P, t0)
def rdLaw (b : Nat → Int32) (n : Nat) (law : Int32) (P : WM) (t0 : Tk) : RS :=
  if nuT b (tk b n t0.2.2) (topL law) then semiR b n (up2 P 1 (ix law) (numT b (tk b n t0.2.2))) (tk b n (tk b n t0.2.2).2.2)
  else (false, P, tk b n t0.2.2)
def rdHouse (b : Nat → Int32) (n : Nat) (row : Nat) (top : Int32) (P : WM) (t0 : Tk) : RS :=
  if nuT b (tk b n t0.2.2) 7 then
    if nmT b (tk b n (tk b n t0.2.2).2.2) 15 = true then
      if nuT b (tk b n (tk b n (tk b n t0.2.2).2.2).2.2) top then
        semiR b n (up2 P row (ix (numT b (tk b n t0.2.2))) (numT b (tk b n (tk b n (tk b n t0.2.2).2.2).2.2))) (tk b n (tk b n (tk b n (tk b n t0.2.2).2.2).2.2).2.2)
      else (false, P, tk b n (tk b n (tk b n t0.2.2).2.2).2.2)
    else (false, P, tk b n (tk b n t0.2.2).2.2)
  else (false, P, tk b n t0.2.2)
def rdBox (b : Nat → Int32) (n : Nat) (P : WM) (t0 : Tk) : RS :=
  if nuT b (tk b n t0.2.2) 7 then semiR b n (up2 P 0 7 (P 0 7 ||| 1 <<< (numT b (tk b n t0.2.2) &&& 31))) (tk b n (tk b n t0.2.2).2.2)
  else (false, P, tk b n t0.2.2)
def rdSent (b : Nat → Int32) (n : Nat) (P : WM) (t0 : Tk) : RS :=
  if kdT b t0 = -1 then
    if lwT b t0 = -1 then
      if nmT b t0 10 = true then rdHouse b n 2 7 P t0
      else if nmT b t0 11 = true then rdHouse b n 3 99 P t0
      else if nmT b t0 12 = true then rdBox b n P t0
      else (false, P, t0)
    else rdLaw b n (lwT b t0) P t0
  else rdTale b n (kdT b t0) P t0
/-- how a reading ends -/
def RE (b : Nat → Int32) (n : Nat) (R : RS) (r : Int32) (u : WM) : Prop := r = bI (R.1 = true) ∧ ∃ D', u = mkT R.2.1 D' ∧ TKS D' b n R.2.2

set_option maxRecDepth 100000 in
set_option maxHeartbeats 4000000 in
theorem c_X4_passName (l : Launch) (G : GE) {ad : Nat → Nat} {M : WM} {n k1 s1 e1 w : Nat} (hw : w < 16) (h0 : TK M n k1 s1 e1) : CT l G yX4_passName cX4_passName 2 (some .boolean) 5 [.ref (ad 0), .ref (G.2.2.1 w)] 2 ad (shB G ad) M (PI (fun r u => r = bI (nmT (M 1) (k1, s1, e1) w = true) ∧ u = if nmT (M 1) (k1, s1, e1) w = true then advB M n e1 else M)) := by
  refine CT.of (own := RX4) rfl rfl (le_b rfl) fun p e s m args below meth c A C0 hr => ?_
  refine AW.lo (ls2 := [(0, _), (1, _)]) rfl ?_
  refine a_aload_n C0 0 dX4_passName_0 rfl rfl ?_
  refine a_aload_n C0 1 dX4_passName_1 rfl rfl ?_
  refine a_callV _ 1 C0 EM.refl (c_X4_isName l G hw h0) u_c_X4_isName u_m_X4_51 u_im_X4_isName u_se_X4_isName u_in_X4 hy_X4_isName rfl (lt_b rfl) rfl (hRk rfl) rfl rfl (le_b rfl) dX4_passName_2 (k_ro EM.refl ?_)
  refine a_if_neb C0 10 dX4_passName_5 rfl (fun h5 => ?_) (fun h5 => ?_)
  · refine a_aload_n C0 0 dX4_passName_10 rfl rfl ?_
    refine a_callV _ 0 C0 EM.refl (c_X4_advance l G h0.ts) u_c_X4_advance u_m_X4_25 u_im_X4_advance u_se_X4_advance u_in_X4 hy_X4_advance rfl (lt_b rfl) rfl (hRk rfl) rfl rfl (le_b rfl) dX4_passName_11 (k_vo ?_)
    refine a_iconst C0 1 dX4_passName_14 rfl ?_
    refine a_zret C0 hr rfl dX4_passName_15 ?_
    exact rd_ (bI_t h5).symm (if_pos h5).symm
  · refine a_iconst C0 0 dX4_passName_8 rfl ?_
    refine a_zret C0 hr rfl dX4_passName_9 ?_
    exact rd_ (bI_f h5).symm (if_neg h5).symm
set_option maxRecDepth 100000 in
set_option maxHeartbeats 4000000 in
theorem c_X4_passSemicolon (l : Launch) (G : GE) {ad : Nat → Nat} {M : WM} {n k1 s1 e1 : Nat} (h0 : TK M n k1 s1 e1) : CT l G yX4_passSemicolon cX4_passSemicolon 1 (some .boolean) 2 [.ref (ad 0)] 2 ad (shB G ad) M (PI (fun r u => r = bI (k1 = 3 ∧ M 1 s1 = 59) ∧ u = if k1 = 3 ∧ M 1 s1 = 59 then advB M n e1 else M)) := by
  refine CT.of (own := RX4) rfl rfl (le_b rfl) fun p e s m args below meth c A C0 hr => ?_
  refine AW.lo (ls2 := [(0, _)]) rfl ?_
  obtain ⟨t1, t2, t3, t4, t5, t6, t7, t8, t9⟩ := id h0
  have hk : M 0 2 = 3 ↔ k1 = 3 := by
    rw [t3]
    exact nI_eq (b := 3) (by omega) (by decide)
  refine a_aload_n C0 0 dX4_passSemicolon_0 rfl rfl ?_
  refine g_X4_15 C0 (lt_b rfl) rfl rfl dX4_passSemicolon_1 ?_
  refine a_iconst C0 3 dX4_passSemicolon_4 rfl ?_
  refine a_icmp_ne C0 22 dX4_passSemicolon_5 rfl (fun h5 => ?_) (fun h5 => ?_)
  · refine a_iconst C0 0 dX4_passSemicolon_22 rfl ?_
    refine a_zret C0 hr rfl dX4_passSemicolon_23 ?_
    first
      | exact rd_ (bI_f fun q => h19 q.2).symm (if_neg fun q => h19 q.2).symm
      | exact rd_ (bI_f fun q => h5 (hk.mpr q.1)).symm (if_neg fun q => h5 (hk.mpr q.1)).symm
  · have hx : IX (M 0 3) s1 200 := IX.eqn t5 (by have := t9 (hk.mp h5); omega) (by decide)
    refine a_aload_n C0 0 dX4_passSemicolon_8 rfl rfl ?_
    refine g_X4_9 C0 (lt_b rfl) rfl rfl dX4_passSemicolon_9 ?_
    refine a_aload_n C0 0 dX4_passSemicolon_12 rfl rfl ?_
    refine g_X4_32 C0 (lt_b rfl) rfl rfl dX4_passSemicolon_13 ?_
    refine a_bald C0 _ (lt_b rfl) rfl hx.1 hx.2 dX4_passSemicolon_16 ?_
    refine a_bipush C0 59 dX4_passSemicolon_17 rfl ?_
    refine a_icmp_eq C0 24 dX4_passSemicolon_19 rfl (fun h19 => ?_) (fun h19 => ?_)
    · refine a_aload_n C0 0 dX4_passSemicolon_24 rfl rfl ?_
      refine a_callV _ 0 C0 EM.refl (c_X4_advance l G h0.ts) u_c_X4_advance u_m_X4_25 u_im_X4_advance u_se_X4_advance u_in_X4 hy_X4_advance rfl (lt_b rfl) rfl (hRk rfl) rfl rfl (le_b rfl) dX4_passSemicolon_25 (k_vo ?_)
      refine a_iconst C0 1 dX4_passSemicolon_28 rfl ?_
      refine a_zret C0 hr rfl dX4_passSemicolon_29 ?_
      exact rd_ (bI_t ⟨hk.mp h5, h19⟩).symm (if_pos ⟨hk.mp h5, h19⟩).symm
    · refine a_iconst C0 0 dX4_passSemicolon_22 rfl ?_
      refine a_zret C0 hr rfl dX4_passSemicolon_23 ?_
      first
        | exact rd_ (bI_f fun q => h19 q.2).symm (if_neg fun q => h19 q.2).symm
        | exact rd_ (bI_f fun q => h5 (hk.mpr q.1)).symm (if_neg fun q => h5 (hk.mpr q.1)).symm
set_option maxRecDepth 100000 in
set_option maxHeartbeats 4000000 in
theorem c_X4_namedKind (l : Launch) (G : GE) {ad : Nat → Nat} {M : WM} {n : Nat} {t : Tk} (h0 : TK M n t.1 t.2.1 t.2.2) : CT l G yX4_namedKind cX4_namedKind 1 (some .int) 5 [.ref (ad 0)] 2 ad (shB G ad) M (PI (fun r u => r = kdT (M 1) t ∧ u = M)) := by
  refine CT.of (own := RX4) rfl rfl (le_b rfl) fun p e s m args below meth c A C0 hr => ?_
  refine AW.lo (ls2 := [(0, _)]) rfl ?_
  refine a_aload_n C0 0 dX4_namedKind_0 rfl rfl ?_
  refine a_ldcS C0 0 (lt_b rfl) dX4_namedKind_1 ?_
  refine a_callV _ 1 C0 EM.refl (c_X4_isName l G (by decide) h0) u_c_X4_isName u_m_X4_51 u_im_X4_isName u_se_X4_isName u_in_X4 hy_X4_isName rfl (lt_b rfl) rfl (hRk rfl) rfl rfl (le_b rfl) dX4_namedKind_3 (k_ro EM.refl ?_)
  refine a_if_eqb C0 11 dX4_namedKind_6 rfl (fun h6 => ?_) (fun h6 => ?_)
  · refine a_aload_n C0 0 dX4_namedKind_11 rfl rfl ?_
    refine a_ldcS C0 1 (lt_b rfl) dX4_namedKind_12 ?_
    refine a_callV _ 1 C0 EM.refl (c_X4_isName l G (by decide) h0) u_c_X4_isName u_m_X4_51 u_im_X4_isName u_se_X4_isName u_in_X4 hy_X4_isName rfl (lt_b rfl) rfl (hRk rfl) rfl rfl (le_b rfl) dX4_namedKind_14 (k_ro EM.refl ?_)
    refine a_if_eqb C0 22 dX4_namedKind_17 rfl (fun h17 => ?_) (fun h17 => ?_)
    · refine a_aload_n C0 0 dX4_namedKind_22 rfl rfl ?_
      refine a_ldcS C0 2 (lt_b rfl) dX4_namedKind_23 ?_
      refine a_callV _ 1 C0 EM.refl (c_X4_isName l G (by decide) h0) u_c_X4_isName u_m_X4_51 u_im_X4_isName u_se_X4_isName u_in_X4 hy_X4_isName rfl (lt_b rfl) rfl (hRk rfl) rfl rfl (le_b rfl) dX4_namedKind_25 (k_ro EM.refl ?_)
      refine a_if_eqb C0 33 dX4_namedKind_28 rfl (fun h28 => ?_) (fun h28 => ?_)
      · refine a_aload_n C0 0 dX4_namedKind_33 rfl rfl ?_
        refine a_ldcS C0 3 (lt_b rfl) dX4_namedKind_34 ?_
        refine a_callV _ 1 C0 EM.refl (c_X4_isName l G (by decide) h0) u_c_X4_isName u_m_X4_51 u_im_X4_isName u_se_X4_isName u_in_X4 hy_X4_isName rfl (lt_b rfl) rfl (hRk rfl) rfl rfl (le_b rfl) dX4_namedKind_36 (k_ro EM.refl ?_)
        refine a_if_eqb C0 44 dX4_namedKind_39 rfl (fun h39 => ?_) (fun h39 => ?_)
        · refine a_aload_n C0 0 dX4_namedKind_44 rfl rfl ?_
          refine a_ldcS C0 4 (lt_b rfl) dX4_namedKind_45 ?_
          refine a_callV _ 1 C0 EM.refl (c_X4_isName l G (by decide) h0) u_c_X4_isName u_m_X4_51 u_im_X4_isName u_se_X4_isName u_in_X4 hy_X4_isName rfl (lt_b rfl) rfl (hRk rfl) rfl rfl (le_b rfl) dX4_namedKind_47 (k_ro EM.refl ?_)
          refine a_if_eqb C0 55 dX4_namedKind_50 rfl (fun h50 => ?_) (fun h50 => ?_)
          · refine a_aload_n C0 0 dX4_namedKind_55 rfl rfl ?_
            refine a_ldcS C0 5 (lt_b rfl) dX4_namedKind_56 ?_
            refine a_callV _ 1 C0 EM.refl (c_X4_isName l G (by decide) h0) u_c_X4_isName u_m_X4_51 u_im_X4_isName u_se_X4_isName u_in_X4 hy_X4_isName rfl (lt_b rfl) rfl (hRk rfl) rfl rfl (le_b rfl) dX4_namedKind_58 (k_ro EM.refl ?_)
            refine a_if_eqb C0 68 dX4_namedKind_61 rfl (fun h61 => ?_) (fun h61 => ?_)
            · refine a_iconst C0 (-1) dX4_namedKind_68 rfl ?_
              refine a_iret C0 hr dX4_namedKind_69 ?_
              refine rt_ ?_
              unfold kdT
              first
                | rw [if_neg h6, if_neg h17, if_neg h28, if_neg h39, if_neg h50, if_neg h61]
                | rw [if_neg h6, if_neg h17, if_neg h28, if_neg h39, if_neg h50, if_pos h61]
                | rw [if_neg h6, if_neg h17, if_neg h28, if_neg h39, if_pos h50]
                | rw [if_neg h6, if_neg h17, if_neg h28, if_pos h39]
                | rw [if_neg h6, if_neg h17, if_pos h28]
                | rw [if_neg h6, if_pos h17]
                | rw [if_pos h6]
            · refine a_iconst C0 5 dX4_namedKind_64 rfl ?_
              refine a_goto C0 69 dX4_namedKind_65 rfl ?_
              refine a_iret C0 hr dX4_namedKind_69 ?_
              refine rt_ ?_
              unfold kdT
              first
                | rw [if_neg h6, if_neg h17, if_neg h28, if_neg h39, if_neg h50, if_neg h61]
                | rw [if_neg h6, if_neg h17, if_neg h28, if_neg h39, if_neg h50, if_pos h61]
                | rw [if_neg h6, if_neg h17, if_neg h28, if_neg h39, if_pos h50]
                | rw [if_neg h6, if_neg h17, if_neg h28, if_pos h39]
                | rw [if_neg h6, if_neg h17, if_pos h28]
                | rw [if_neg h6, if_pos h17]
                | rw [if_pos h6]
          · refine a_iconst C0 4 dX4_namedKind_53 rfl ?_
            refine a_iret C0 hr dX4_namedKind_54 ?_
            refine rt_ ?_
            unfold kdT
            first
              | rw [if_neg h6, if_neg h17, if_neg h28, if_neg h39, if_neg h50, if_neg h61]
              | rw [if_neg h6, if_neg h17, if_neg h28, if_neg h39, if_neg h50, if_pos h61]
              | rw [if_neg h6, if_neg h17, if_neg h28, if_neg h39, if_pos h50]
              | rw [if_neg h6, if_neg h17, if_neg h28, if_pos h39]
              | rw [if_neg h6, if_neg h17, if_pos h28]
              | rw [if_neg h6, if_pos h17]
              | rw [if_pos h6]
        · refine a_iconst C0 3 dX4_namedKind_42 rfl ?_
          refine a_iret C0 hr dX4_namedKind_43 ?_
          refine rt_ ?_
          unfold kdT
          first
            | rw [if_neg h6, if_neg h17, if_neg h28, if_neg h39, if_neg h50, if_neg h61]
            | rw [if_neg h6, if_neg h17, if_neg h28, if_neg h39, if_neg h50, if_pos h61]
            | rw [if_neg h6, if_neg h17, if_neg h28, if_neg h39, if_pos h50]
            | rw [if_neg h6, if_neg h17, if_neg h28, if_pos h39]
            | rw [if_neg h6, if_neg h17, if_pos h28]
            | rw [if_neg h6, if_pos h17]
            | rw [if_pos h6]
      · refine a_iconst C0 2 dX4_namedKind_31 rfl ?_
        refine a_iret C0 hr dX4_namedKind_32 ?_
        refine rt_ ?_
        unfold kdT
        first
          | rw [if_neg h6, if_neg h17, if_neg h28, if_neg h39, if_neg h50, if_neg h61]
          | rw [if_neg h6, if_neg h17, if_neg h28, if_neg h39, if_neg h50, if_pos h61]
          | rw [if_neg h6, if_neg h17, if_neg h28, if_neg h39, if_pos h50]
          | rw [if_neg h6, if_neg h17, if_neg h28, if_pos h39]
          | rw [if_neg h6, if_neg h17, if_pos h28]
          | rw [if_neg h6, if_pos h17]
          | rw [if_pos h6]
    · refine a_iconst C0 1 dX4_namedKind_20 rfl ?_
      refine a_iret C0 hr dX4_namedKind_21 ?_
      refine rt_ ?_
      unfold kdT
      first
        | rw [if_neg h6, if_neg h17, if_neg h28, if_neg h39, if_neg h50, if_neg h61]
        | rw [if_neg h6, if_neg h17, if_neg h28, if_neg h39, if_neg h50, if_pos h61]
        | rw [if_neg h6, if_neg h17, if_neg h28, if_neg h39, if_pos h50]
        | rw [if_neg h6, if_neg h17, if_neg h28, if_pos h39]
        | rw [if_neg h6, if_neg h17, if_pos h28]
        | rw [if_neg h6, if_pos h17]
        | rw [if_pos h6]
  · refine a_iconst C0 0 dX4_namedKind_9 rfl ?_
    refine a_iret C0 hr dX4_namedKind_10 ?_
    refine rt_ ?_
    unfold kdT
    first
      | rw [if_neg h6, if_neg h17, if_neg h28, if_neg h39, if_neg h50, if_neg h61]
      | rw [if_neg h6, if_neg h17, if_neg h28, if_neg h39, if_neg h50, if_pos h61]
      | rw [if_neg h6, if_neg h17, if_neg h28, if_neg h39, if_pos h50]
      | rw [if_neg h6, if_neg h17, if_neg h28, if_pos h39]
      | rw [if_neg h6, if_neg h17, if_pos h28]
      | rw [if_neg h6, if_pos h17]
      | rw [if_pos h6]
set_option maxRecDepth 100000 in
set_option maxHeartbeats 4000000 in
theorem c_X4_namedLaw (l : Launch) (G : GE) {ad : Nat → Nat} {M : WM} {n : Nat} {t : Tk} (h0 : TK M n t.1 t.2.1 t.2.2) : CT l G yX4_namedLaw cX4_namedLaw 1 (some .int) 5 [.ref (ad 0)] 2 ad (shB G ad) M (PI (fun r u => r = lwT (M 1) t ∧ u = M)) := by
  refine CT.of (own := RX4) rfl rfl (le_b rfl) fun p e s m args below meth c A C0 hr => ?_
  refine AW.lo (ls2 := [(0, _)]) rfl ?_
  refine a_aload_n C0 0 dX4_namedLaw_0 rfl rfl ?_
  refine a_ldcS C0 6 (lt_b rfl) dX4_namedLaw_1 ?_
  refine a_callV _ 1 C0 EM.refl (c_X4_isName l G (by decide) h0) u_c_X4_isName u_m_X4_51 u_im_X4_isName u_se_X4_isName u_in_X4 hy_X4_isName rfl (lt_b rfl) rfl (hRk rfl) rfl rfl (le_b rfl) dX4_namedLaw_3 (k_ro EM.refl ?_)
  refine a_if_eqb C0 11 dX4_namedLaw_6 rfl (fun h6 => ?_) (fun h6 => ?_)
  · refine a_aload_n C0 0 dX4_namedLaw_11 rfl rfl ?_
    refine a_ldcS C0 7 (lt_b rfl) dX4_namedLaw_12 ?_
    refine a_callV _ 1 C0 EM.refl (c_X4_isName l G (by decide) h0) u_c_X4_isName u_m_X4_51 u_im_X4_isName u_se_X4_isName u_in_X4 hy_X4_isName rfl (lt_b rfl) rfl (hRk rfl) rfl rfl (le_b rfl) dX4_namedLaw_14 (k_ro EM.refl ?_)
    refine a_if_eqb C0 22 dX4_namedLaw_17 rfl (fun h17 => ?_) (fun h17 => ?_)
    · refine a_aload_n C0 0 dX4_namedLaw_22 rfl rfl ?_
      refine a_ldcS C0 8 (lt_b rfl) dX4_namedLaw_23 ?_
      refine a_callV _ 1 C0 EM.refl (c_X4_isName l G (by decide) h0) u_c_X4_isName u_m_X4_51 u_im_X4_isName u_se_X4_isName u_in_X4 hy_X4_isName rfl (lt_b rfl) rfl (hRk rfl) rfl rfl (le_b rfl) dX4_namedLaw_25 (k_ro EM.refl ?_)
      refine a_if_eqb C0 33 dX4_namedLaw_28 rfl (fun h28 => ?_) (fun h28 => ?_)
      · refine a_aload_n C0 0 dX4_namedLaw_33 rfl rfl ?_
        refine a_ldcS C0 9 (lt_b rfl) dX4_namedLaw_34 ?_
        refine a_callV _ 1 C0 EM.refl (c_X4_isName l G (by decide) h0) u_c_X4_isName u_m_X4_51 u_im_X4_isName u_se_X4_isName u_in_X4 hy_X4_isName rfl (lt_b rfl) rfl (hRk rfl) rfl rfl (le_b rfl) dX4_namedLaw_36 (k_ro EM.refl ?_)
        refine a_if_eqb C0 46 dX4_namedLaw_39 rfl (fun h39 => ?_) (fun h39 => ?_)
        · refine a_iconst C0 (-1) dX4_namedLaw_46 rfl ?_
          refine a_iret C0 hr dX4_namedLaw_47 ?_
          refine rt_ ?_
          unfold lwT
          first
            | rw [if_neg h6, if_neg h17, if_neg h28, if_neg h39]
            | rw [if_neg h6, if_neg h17, if_neg h28, if_pos h39]
            | rw [if_neg h6, if_neg h17, if_pos h28]
            | rw [if_neg h6, if_pos h17]
            | rw [if_pos h6]
        · refine a_iconst C0 3 dX4_namedLaw_42 rfl ?_
          refine a_goto C0 47 dX4_namedLaw_43 rfl ?_
          refine a_iret C0 hr dX4_namedLaw_47 ?_
          refine rt_ ?_
          unfold lwT
          first
            | rw [if_neg h6, if_neg h17, if_neg h28, if_neg h39]
            | rw [if_neg h6, if_neg h17, if_neg h28, if_pos h39]
            | rw [if_neg h6, if_neg h17, if_pos h28]
            | rw [if_neg h6, if_pos h17]
            | rw [if_pos h6]
      · refine a_iconst C0 2 dX4_namedLaw_31 rfl ?_
        refine a_iret C0 hr dX4_namedLaw_32 ?_
        refine rt_ ?_
        unfold lwT
        first
          | rw [if_neg h6, if_neg h17, if_neg h28, if_neg h39]
          | rw [if_neg h6, if_neg h17, if_neg h28, if_pos h39]
          | rw [if_neg h6, if_neg h17, if_pos h28]
          | rw [if_neg h6, if_pos h17]
          | rw [if_pos h6]
    · refine a_iconst C0 1 dX4_namedLaw_20 rfl ?_
      refine a_iret C0 hr dX4_namedLaw_21 ?_
      refine rt_ ?_
      unfold lwT
      first
        | rw [if_neg h6, if_neg h17, if_neg h28, if_neg h39]
        | rw [if_neg h6, if_neg h17, if_neg h28, if_pos h39]
        | rw [if_neg h6, if_neg h17, if_pos h28]
        | rw [if_neg h6, if_pos h17]
        | rw [if_pos h6]
  · refine a_iconst C0 0 dX4_namedLaw_9 rfl ?_
    refine a_iret C0 hr dX4_namedLaw_10 ?_
    refine rt_ ?_
    unfold lwT
    first
      | rw [if_neg h6, if_neg h17, if_neg h28, if_neg h39]
      | rw [if_neg h6, if_neg h17, if_neg h28, if_pos h39]
      | rw [if_neg h6, if_neg h17, if_pos h28]
      | rw [if_neg h6, if_pos h17]
      | rw [if_pos h6]
