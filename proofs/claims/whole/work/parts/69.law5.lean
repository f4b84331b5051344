
def adJ (a b : Nat → Nat) : Nat → Nat := fun k => if k < 54 then a k else b (k - 54)
theorem shX_J {G : GE} {a b : Nat → Nat} : ∀ (k : Nat) (f : Nat → Int32), k < 54 → shX G (adJ a b) k f = shX G a k f := by
  intro k f hk
  match k, hk with
  | 0, _ => rfl
  | 1, _ => rfl
  | 2, _ => rfl
  | 3, _ => rfl
  | 4, _ => rfl
  | 5, _ => rfl
  | 6, _ => rfl
  | 7, _ => rfl
  | 8, _ => rfl
  | 9, _ => rfl
  | 10, _ => rfl
  | 11, _ => rfl
  | 12, _ => rfl
  | 13, _ => rfl
  | 14, _ => rfl
  | 15, _ => rfl
  | 16, _ => rfl
  | 17, _ => rfl
  | 18, _ => rfl
  | 19, _ => rfl
  | 20, _ => rfl
  | 21, _ => rfl
  | 22, _ => rfl
  | 23, _ => rfl
  | 24, _ => rfl
  | 25, _ => rfl
  | 26, _ => rfl
  | 27, _ =>
    have e : (fun i => if i < 10 then some (adJ a b (28 + i)) else none) = fun i => if i < 10 then some (a (28 + i)) else none := by
      funext i
      by_cases h : i < 10
      · rw [if_pos h, if_pos h]
        exact congrArg some (if_pos (by omega))
      · rw [if_neg h, if_neg h]
    show (Sum.inl (G.2.1 2, 10, .inr (.inr (.inr (.inr (fun i => if i < 10 then some (adJ a b (28 + i)) else none))))) : va_E) = .inl (G.2.1 2, 10, .inr (.inr (.inr (.inr (fun i => if i < 10 then some (a (28 + i)) else none)))))
    rw [e]
  | 28, _ => rfl
  | 29, _ => rfl
  | 30, _ => rfl
  | 31, _ => rfl
  | 32, _ => rfl
  | 33, _ => rfl
  | 34, _ => rfl
  | 35, _ => rfl
  | 36, _ => rfl
  | 37, _ => rfl
  | 38, _ =>
    have e : (fun i => if i < 4 then some (adJ a b (39 + 2 * i)) else none) = fun i => if i < 4 then some (a (39 + 2 * i)) else none := by
      funext i
      by_cases h : i < 4
      · rw [if_pos h, if_pos h]
        exact congrArg some (if_pos (by omega))
      · rw [if_neg h, if_neg h]
    show (Sum.inl (G.2.1 3, 4, .inr (.inr (.inr (.inr (fun i => if i < 4 then some (adJ a b (39 + 2 * i)) else none))))) : va_E) = .inl (G.2.1 3, 4, .inr (.inr (.inr (.inr (fun i => if i < 4 then some (a (39 + 2 * i)) else none)))))
    rw [e]
  | 39, _ => rfl
  | 40, _ => rfl
  | 41, _ => rfl
  | 42, _ => rfl
  | 43, _ => rfl
  | 44, _ => rfl
  | 45, _ => rfl
  | 46, _ => rfl
  | 47, _ =>
    have e : (fun i => if i < 4 then some (adJ a b (48 + i)) else none) = fun i => if i < 4 then some (a (48 + i)) else none := by
      funext i
      by_cases h : i < 4
      · rw [if_pos h, if_pos h]
        exact congrArg some (if_pos (by omega))
      · rw [if_neg h, if_neg h]
    show (Sum.inl (G.2.1 4, 4, .inr (.inr (.inr (.inr (fun i => if i < 4 then some (adJ a b (48 + i)) else none))))) : va_E) = .inl (G.2.1 4, 4, .inr (.inr (.inr (.inr (fun i => if i < 4 then some (a (48 + i)) else none)))))
    rw [e]
  | 48, _ => rfl
  | 49, _ => rfl
  | 50, _ => rfl
  | 51, _ => rfl
  | 52, _ => rfl
  | 53, _ => rfl
  | k + 54, hk => exact absurd hk (by omega)
theorem wC_J {G : GE} {a b : Nat → Nat} {U V : WM} : wC 68 (adJ a b) (shL G (adJ a b)) (mkL U V) = wC 54 a (shX G a) U ++ wC 14 b (shM G b) V := by
  apply List.ext_getElem?
  intro k
  by_cases h : k < 54
  · rw [wC_at (by omega), List.getElem?_append_left (by rw [wC_len]; exact h), wC_at h]
    show some (if k < 54 then a k else b (k - 54), if k < 54 then shX G (adJ a b) k (if k < 54 then U k else V (k - 54)) else _) = _
    rw [if_pos h, if_pos h, if_pos h, shX_J k _ h]
  · rw [List.getElem?_append_right (by rw [wC_len]; omega), wC_len]
    by_cases h2 : k < 68
    · rw [wC_at h2, wC_at (by omega)]
      show some (if k < 54 then a k else b (k - 54), if k < 54 then _ else shM G (fun j => adJ a b (54 + j)) (k - 54) (if k < 54 then U k else V (k - 54))) = _
      rw [if_neg h, if_neg h, if_neg h, show (fun j => adJ a b (54 + j)) = b from by
        funext j
        show (if 54 + j < 54 then _ else b (54 + j - 54)) = b j
        rw [if_neg (by omega), Nat.add_sub_cancel_left]]
    · rw [List.getElem?_eq_none (by rw [wC_len]; omega), List.getElem?_eq_none (by rw [wC_len]; omega)]
theorem p1_is : up2 (firstP z0) 0 10 1 = p1_0 := by
  funext c k
  match c with
  | 0 =>
    show (if k = 10 then (1 : Int32) else if k = 7 ∨ k = 8 ∨ k = 9 then 0 else 0) = if k = 7 ∨ k = 8 ∨ k = 9 then 0 else if k = 10 then 1 else 0
    by_cases h : k = 10
    · rw [if_pos h, if_neg (by omega), if_pos h]
    · rw [if_neg h]
      split <;> rfl
  | 1 => rfl
  | 2 => rfl
  | 3 => rfl
  | c + 4 => rfl
theorem inv_0 {S : RW} (h : ∀ P0, RP (up2 (firstP P0) 0 10 1) S 0 0) : INV 0 (fun _ => 0) p1_0 p1_0 (up2 z0 0 2 0) z0 s1_0 h1_0 z0 (fun _ => 0) S x6_0 := by
  refine ⟨⟨0, 0, p1_is ▸ h z0, Nat.le_refl _⟩, rfl, Or.inl rfl, ⟨0, rfl, rfl, by decide, fun i hi => absurd hi (Nat.not_lt_zero i)⟩, ⟨0, rfl, by decide, rfl, fun i _ k _ => rfl⟩, fun j hj => ?_, fun j hj => ⟨rfl, Or.inl rfl, fun q => absurd (show (0 : Int32) = 1 from q) (by decide), fun q => absurd (show (0 : Int32) = 2 from q) (by decide)⟩, rfl, ⟨0, by decide, rfl⟩, fun k _ => rfl, rfl, rfl, rfl, rfl⟩
  match j, hj with
  | 0, _ => exact ⟨rfl, Or.inl rfl, 0, by decide, rfl, rfl, fun k hk => absurd hk (Nat.not_lt_zero k)⟩
  | 1, _ => exact ⟨rfl, Or.inl rfl, 0, by decide, rfl, rfl, fun k hk => absurd hk (Nat.not_lt_zero k)⟩
  | 2, _ => exact ⟨rfl, Or.inl rfl, 0, by decide, rfl, rfl, fun k hk => absurd hk (Nat.not_lt_zero k)⟩
  | 3, _ => exact ⟨rfl, Or.inl rfl, 0, by decide, rfl, rfl, fun k hk => absurd hk (Nat.not_lt_zero k)⟩
set_option maxRecDepth 100000 in
set_option maxHeartbeats 8000000 in
/-- the law, from its entry -/
theorem whole_start {p : Program} {e : Env} {s : State} {m : MethodId} {below : List Frame} {meth : Method} {c : Code} (l : Launch) (hflags : l.flags = flags0) {b L : Nat} {xs : Nat → Int32} (hL : L ≤ 2560) (C0 : lw_At p s m meth c b L xs) : W p l e room_1 s m #[Value.ref b] below meth c s.heap [] 0 0 (lw_Z below #[Value.ref b] s) (entryFrame m ([Value.ref b] : List Value).toArray 4) := by
  obtain ⟨hx, hb, hr, hml, hown, hts, hX, hbl, hlocks, hgv⟩ := id C0
  obtain ⟨G, hK, hN, hSF, hZ⟩ := law_G (flat_of_before _ hgv) hts
  have B0 : Bx p s m #[Value.ref b] meth c G (fun q => s.heap.size ≤ q) cL_law RL 4 := ⟨hx, hb, hml, hown, fun w h => hts w (wg_tbl w h), hlocks, hK, fun _ h => h, hN, hSF, hZ⟩
  have hl := lv_entry ([.ref b]) (n := 4) (le_b rfl)
  rw [lg_entry_eq]
  generalize (lg_sl ([.ref b]) ++ List.replicate (4 - (lg_sl ([.ref b])).length) Slot.unset).toArray = la at hl ⊢
  refine (show BW p l e room_1 s m #[Value.ref b] below meth c G (fun q => s.heap.size ≤ q) 4 0 0 (lw_Z below #[Value.ref b] s) 0 [(0, .ref b)] [] [] from ?_) s.heap [] la (fun k q h => by cases h) ⟨fun i j x y h => (by cases h), fun k q h => (by cases h)⟩ va_S.rf hl
  refine b_new (ci := 5) (fs := [.null, .null, .null, .int 0, .null, .null, .int 0, .null, .null, .null]) (C := RX5) (T := TX5) (N := 10) B0 u_ws_X5 tyX5 tyX5_ok u_cl_L_7 u_ia_X5 u_in_X5 rfl (by decide +kernel) (le_b rfl) (le_b rfl) dL_law_0 (fun q1 => ?_)
  refine b_dup B0 dL_law_3 rfl ?_
  refine b_callIo B0 (c_X5_init l G) u_c_X5_init u_m_L_9 u_im_X5_init u_in_X5 rfl (by decide +kernel) ⟨le_b rfl, le_b rfl, le_b rfl, le_b rfl⟩ (le_b rfl) dL_law_4 (fun aX U had hM => ?_)
  subst hM
  subst had
  refine b_astore_n (ls2 := [(1, _), (0, _)]) B0 dL_law_7 rfl (lt_b rfl) rfl ?_
  refine b_new (ci := 6) (fs := [.null, .null, .null, .null, .int 0, .null, .int 0, .int 0, .int 0, .int 0, .int 0, .int 0, .null, .int 0, .null, .null, .null, .null, .null, .null, .null, .int 0, .int 0, .int 0, .int 0, .int 0]) (C := RX6) (T := TX6) (N := 26) B0 u_ws_X6 tyX6 tyX6_ok u_cl_L_10 u_ia_X6 u_in_X6 rfl (by decide +kernel) (le_b rfl) (le_b rfl) dL_law_8 (fun q2 => ?_)
  refine b_dup B0 dL_law_11 rfl ?_
  refine b_callIo B0 (c_X6_init l G) u_c_X6_init u_m_L_12 u_im_X6_init u_in_X6 rfl (by decide +kernel) ⟨le_b rfl, le_b rfl, le_b rfl, le_b rfl⟩ (le_b rfl) dL_law_12 (fun aM U had hM => ?_)
  obtain ⟨O6, S6, X6, rfl, rfl, hS6, rfl⟩ := hM
  subst had
  refine b_astore_n (ls2 := [(2, _), (1, _), (0, _)]) B0 dL_law_15 rfl (lt_b rfl) rfl ?_
  refine b_iconst B0 0 dL_law_16 rfl ?_
  refine b_istore_n (ls2 := [(3, _), (2, _), (1, _), (0, _)]) B0 dL_law_17 rfl (lt_b rfl) rfl ?_
  refine BW.wide (cs2 := 600000) (sl2 := 7302250) (le_b rfl) (le_b rfl) ?_
  refine BW.aw (N := 68) (ad := adJ aX aM) (sh := shL G (adJ aX aM)) (M := mkL (mkX (fun _ => 0) p1_0 p1_0 p1_0 (up2 z0 0 2 0) z0 s1_0 h1_0 z0) (mkM (fun _ => 0) S6 x6_0)) B0 wC_J.symm (fun C1 => ?_)
  refine AW.sub (ls2 := [(3, .int 0), (0, .ref b), (1, .ref (adJ aX aM 0)), (2, .ref (adJ aX aM 54))]) [0, 3, 2, 1] rfl ?_
  exact law_loop C0 C1 (fun _ h => h) hX hbl (Nat.not_le.mpr hbl) hL 2561 0 0 0 _ _ _ _ _ _ _ _ _ _ _ _ (by omega) rfl (by omega) (by omega) (inv_0 hS6)

