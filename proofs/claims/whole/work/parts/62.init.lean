
def adL (L : List Nat) : Nat → Nat := fun k => L.getD k 0
def z0 : WM := fun _ _ => 0
def x2_0 : WM := fun c => match c with
  | 0 => fun j => if j = 0 then -1 else 0
  | _ => fun _ => 0
def x6_0 : WM := fun c => match c with
  | 7 => upd (upd (upd (upd (fun _ => 0) 0 (-1)) 1 (-1)) 2 (-1)) 3 (-1)
  | _ => fun _ => 0

set_option maxRecDepth 100000 in
set_option maxHeartbeats 4000000 in
theorem c_X0_init (l : Launch) (G : GE) : BTC l G yX0_init cX0_init 1 0 [.null, .int 0, .int 0, .int 0, .int 0, .int 0] 2 (shD G) (fun M => M = z0) 1 1 30 := by
  refine BTC.of (own := RX0) rfl rfl rfl (le_b rfl) fun h0 p e s m args below meth c A B0 hr hin => ?_
  refine b_aload_n B0 0 dX0_init_0 rfl rfl ?_
  refine b_obj B0 u_m_X0_3 rfl (le_b rfl) dX0_init_1 ?_
  refine b_aload_n B0 0 dX0_init_4 rfl rfl ?_
  refine b_bipush B0 30 dX0_init_5 rfl ?_
  refine b_newa (atype := .int) (a0 := (30, .inl (fun _ => 0))) B0 0 u_ac_I rfl rfl (fun cA => rfl) (by decide) rfl (le_b rfl) (le_b rfl) (le_b rfl) dX0_init_7 (fun q1 => ?_)
  refine b_putF (C := RX0) (T := TX0) (N := 6) B0 0 rfl 0 tyX0 tyX0_ok nmX0 rfl u_ws_X0 (lt_b rfl) u_f_X0_11 rfl rfl hin rfl rfl rfl rfl (lt_b rfl) dX0_init_9 ?_
  refine BW.eq (ws := [(h0, .inr (0, [.ref q1, .int 0, .int 0, .int 0, .int 0, .int 0])), (q1, .inl (G.2.1 0, 30, .inl (fun _ => 0)))]) rfl ?_
  refine BW.aw (N := 2) (ad := adL [h0, q1]) (sh := shD G (adL [h0, q1])) (M := z0) B0 rfl (fun C0 => ?_)
  refine AW.lo (ls2 := [(0, .ref (adL [h0, q1] 0))]) rfl ?_
  generalize hAD : adL [h0, q1] = ad at C0 ⊢
  exact a_bret C0 hr dX0_init_12 (by rw [← hAD]; rfl) rfl rfl
set_option maxRecDepth 100000 in
set_option maxHeartbeats 4000000 in
theorem c_X1_init (l : Launch) (G : GE) : BTC l G yX1_init cX1_init 1 1 [.null, .null, .null, .null, .null, .null, .null, .int 0, .int 0, .int 0, .int 0] 8 (shP G) (fun M => M = firstP (up2 z0 0 10 1)) 2 7 52 := by
  refine BTC.of (own := RX1) rfl rfl rfl (le_b rfl) fun h0 p e s m args below meth c A B0 hr hin => ?_
  refine b_aload_n B0 0 dX1_init_0 rfl rfl ?_
  refine b_obj B0 u_m_X1_3 rfl (le_b rfl) dX1_init_1 ?_
  refine b_aload_n B0 0 dX1_init_4 rfl rfl ?_
  refine b_iconst B0 4 dX1_init_5 rfl ?_
  refine b_newa (atype := .int) (a0 := (4, .inl (fun _ => 0))) B0 0 u_ac_I rfl rfl (fun cA => rfl) (by decide) rfl (le_b rfl) (le_b rfl) (le_b rfl) dX1_init_6 (fun q1 => ?_)
  refine b_putF (C := RX1) (T := TX1) (N := 11) B0 0 rfl 0 tyX1 tyX1_ok nmX1 rfl u_ws_X1 (lt_b rfl) u_f_X1_9 rfl rfl hin rfl rfl rfl rfl (lt_b rfl) dX1_init_8 ?_
  refine BW.eq (ws := [(h0, .inr (1, [.ref q1, .null, .null, .null, .null, .null, .null, .int 0, .int 0, .int 0, .int 0])), (q1, .inl (G.2.1 0, 4, .inl (fun _ => 0)))]) rfl ?_
  refine b_aload_n B0 0 dX1_init_11 rfl rfl ?_
  refine b_bipush B0 8 dX1_init_12 rfl ?_
  refine b_newa (atype := .int) (a0 := (8, .inl (fun _ => 0))) B0 0 u_ac_I rfl rfl (fun cA => rfl) (by decide) rfl (le_b rfl) (le_b rfl) (le_b rfl) dX1_init_14 (fun q2 => ?_)
  refine b_putF (C := RX1) (T := TX1) (N := 11) B0 0 rfl 1 tyX1 tyX1_ok nmX1 rfl u_ws_X1 (lt_b rfl) u_f_X1_15 rfl rfl hin rfl rfl rfl rfl (lt_b rfl) dX1_init_16 ?_
  refine BW.eq (ws := [(h0, .inr (1, [.ref q1, .ref q2, .null, .null, .null, .null, .null, .int 0, .int 0, .int 0, .int 0])), (q1, .inl (G.2.1 0, 4, .inl (fun _ => 0))), (q2, .inl (G.2.1 0, 8, .inl (fun _ => 0)))]) rfl ?_
  refine b_aload_n B0 0 dX1_init_19 rfl rfl ?_
  refine b_bipush B0 8 dX1_init_20 rfl ?_
  refine b_newa (atype := .int) (a0 := (8, .inl (fun _ => 0))) B0 0 u_ac_I rfl rfl (fun cA => rfl) (by decide) rfl (le_b rfl) (le_b rfl) (le_b rfl) dX1_init_22 (fun q3 => ?_)
  refine b_putF (C := RX1) (T := TX1) (N := 11) B0 0 rfl 2 tyX1 tyX1_ok nmX1 rfl u_ws_X1 (lt_b rfl) u_f_X1_18 rfl rfl hin rfl rfl rfl rfl (lt_b rfl) dX1_init_24 ?_
  refine BW.eq (ws := [(h0, .inr (1, [.ref q1, .ref q2, .ref q3, .null, .null, .null, .null, .int 0, .int 0, .int 0, .int 0])), (q1, .inl (G.2.1 0, 4, .inl (fun _ => 0))), (q2, .inl (G.2.1 0, 8, .inl (fun _ => 0))), (q3, .inl (G.2.1 0, 8, .inl (fun _ => 0)))]) rfl ?_
  refine b_aload_n B0 0 dX1_init_27 rfl rfl ?_
  refine b_bipush B0 8 dX1_init_28 rfl ?_
  refine b_newa (atype := .int) (a0 := (8, .inl (fun _ => 0))) B0 0 u_ac_I rfl rfl (fun cA => rfl) (by decide) rfl (le_b rfl) (le_b rfl) (le_b rfl) dX1_init_30 (fun q4 => ?_)
  refine b_putF (C := RX1) (T := TX1) (N := 11) B0 0 rfl 3 tyX1 tyX1_ok nmX1 rfl u_ws_X1 (lt_b rfl) u_f_X1_21 rfl rfl hin rfl rfl rfl rfl (lt_b rfl) dX1_init_32 ?_
  refine BW.eq (ws := [(h0, .inr (1, [.ref q1, .ref q2, .ref q3, .ref q4, .null, .null, .null, .int 0, .int 0, .int 0, .int 0])), (q1, .inl (G.2.1 0, 4, .inl (fun _ => 0))), (q2, .inl (G.2.1 0, 8, .inl (fun _ => 0))), (q3, .inl (G.2.1 0, 8, .inl (fun _ => 0))), (q4, .inl (G.2.1 0, 8, .inl (fun _ => 0)))]) rfl ?_
  refine b_aload_n B0 0 dX1_init_35 rfl rfl ?_
  refine b_bipush B0 8 dX1_init_36 rfl ?_
  refine b_newa (atype := .int) (a0 := (8, .inl (fun _ => 0))) B0 0 u_ac_I rfl rfl (fun cA => rfl) (by decide) rfl (le_b rfl) (le_b rfl) (le_b rfl) dX1_init_38 (fun q5 => ?_)
  refine b_putF (C := RX1) (T := TX1) (N := 11) B0 0 rfl 4 tyX1 tyX1_ok nmX1 rfl u_ws_X1 (lt_b rfl) u_f_X1_24 rfl rfl hin rfl rfl rfl rfl (lt_b rfl) dX1_init_40 ?_
  refine BW.eq (ws := [(h0, .inr (1, [.ref q1, .ref q2, .ref q3, .ref q4, .ref q5, .null, .null, .int 0, .int 0, .int 0, .int 0])), (q1, .inl (G.2.1 0, 4, .inl (fun _ => 0))), (q2, .inl (G.2.1 0, 8, .inl (fun _ => 0))), (q3, .inl (G.2.1 0, 8, .inl (fun _ => 0))), (q4, .inl (G.2.1 0, 8, .inl (fun _ => 0))), (q5, .inl (G.2.1 0, 8, .inl (fun _ => 0)))]) rfl ?_
  refine b_aload_n B0 0 dX1_init_43 rfl rfl ?_
  refine b_bipush B0 8 dX1_init_44 rfl ?_
  refine b_newa (atype := .int) (a0 := (8, .inl (fun _ => 0))) B0 0 u_ac_I rfl rfl (fun cA => rfl) (by decide) rfl (le_b rfl) (le_b rfl) (le_b rfl) dX1_init_46 (fun q6 => ?_)
  refine b_putF (C := RX1) (T := TX1) (N := 11) B0 0 rfl 5 tyX1 tyX1_ok nmX1 rfl u_ws_X1 (lt_b rfl) u_f_X1_27 rfl rfl hin rfl rfl rfl rfl (lt_b rfl) dX1_init_48 ?_
  refine BW.eq (ws := [(h0, .inr (1, [.ref q1, .ref q2, .ref q3, .ref q4, .ref q5, .ref q6, .null, .int 0, .int 0, .int 0, .int 0])), (q1, .inl (G.2.1 0, 4, .inl (fun _ => 0))), (q2, .inl (G.2.1 0, 8, .inl (fun _ => 0))), (q3, .inl (G.2.1 0, 8, .inl (fun _ => 0))), (q4, .inl (G.2.1 0, 8, .inl (fun _ => 0))), (q5, .inl (G.2.1 0, 8, .inl (fun _ => 0))), (q6, .inl (G.2.1 0, 8, .inl (fun _ => 0)))]) rfl ?_
  refine b_aload_n B0 0 dX1_init_51 rfl rfl ?_
  refine b_bipush B0 8 dX1_init_52 rfl ?_
  refine b_newa (atype := .int) (a0 := (8, .inl (fun _ => 0))) B0 0 u_ac_I rfl rfl (fun cA => rfl) (by decide) rfl (le_b rfl) (le_b rfl) (le_b rfl) dX1_init_54 (fun q7 => ?_)
  refine b_putF (C := RX1) (T := TX1) (N := 11) B0 0 rfl 6 tyX1 tyX1_ok nmX1 rfl u_ws_X1 (lt_b rfl) u_f_X1_30 rfl rfl hin rfl rfl rfl rfl (lt_b rfl) dX1_init_56 ?_
  refine BW.eq (ws := [(h0, .inr (1, [.ref q1, .ref q2, .ref q3, .ref q4, .ref q5, .ref q6, .ref q7, .int 0, .int 0, .int 0, .int 0])), (q1, .inl (G.2.1 0, 4, .inl (fun _ => 0))), (q2, .inl (G.2.1 0, 8, .inl (fun _ => 0))), (q3, .inl (G.2.1 0, 8, .inl (fun _ => 0))), (q4, .inl (G.2.1 0, 8, .inl (fun _ => 0))), (q5, .inl (G.2.1 0, 8, .inl (fun _ => 0))), (q6, .inl (G.2.1 0, 8, .inl (fun _ => 0))), (q7, .inl (G.2.1 0, 8, .inl (fun _ => 0)))]) rfl ?_
  refine BW.aw (N := 8) (ad := adL [h0, q1, q2, q3, q4, q5, q6, q7]) (sh := shP G (adL [h0, q1, q2, q3, q4, q5, q6, q7])) (M := z0) B0 rfl (fun C0 => ?_)
  refine AW.lo (ls2 := [(0, .ref (adL [h0, q1, q2, q3, q4, q5, q6, q7] 0))]) rfl ?_
  generalize hAD : adL [h0, q1, q2, q3, q4, q5, q6, q7] = ad at C0 ⊢
  refine a_aload_n C0 0 dX1_init_59 rfl rfl ?_
  refine a_iconst C0 1 dX1_init_60 rfl ?_
  refine p_X1_33 C0 (lt_b rfl) rfl (lt_b rfl) rfl rfl dX1_init_61 ?_
  refine a_aload_n C0 0 dX1_init_64 rfl rfl ?_
  refine a_callV _ 0 C0 EM.refl (c_X1_makeFirst l G) u_c_X1_makeFirst u_m_X1_37 u_im_X1_makeFirst u_se_X1_makeFirst u_in_X1 hy_X1_makeFirst rfl (lt_b rfl) rfl (hRk rfl) rfl rfl (le_b rfl) dX1_init_65 (k_vo ?_)
  exact a_bret C0 hr dX1_init_68 (by rw [← hAD]; rfl) rfl rfl
set_option maxRecDepth 100000 in
set_option maxHeartbeats 4000000 in
theorem c_X2_init (l : Launch) (G : GE) : BTC l G yX2_init cX2_init 1 2 [.int 0, .int 0, .null] 2 (shS G) (fun M => M = x2_0) 1 1 40 := by
  refine BTC.of (own := RX2) rfl rfl rfl (le_b rfl) fun h0 p e s m args below meth c A B0 hr hin => ?_
  refine b_aload_n B0 0 dX2_init_0 rfl rfl ?_
  refine b_obj B0 u_m_X2_3 rfl (le_b rfl) dX2_init_1 ?_
  refine b_aload_n B0 0 dX2_init_4 rfl rfl ?_
  refine b_iconst B0 (-1) dX2_init_5 rfl ?_
  refine b_put (C := RX2) (T := TX2) (N := 3) B0 0 rfl 0 tyX2 tyX2_ok nmX2 rfl u_ws_X2 (lt_b rfl) u_f_X2_9 rfl rfl rfl rfl rfl (lt_b rfl) dX2_init_6 ?_
  refine BW.eq (ws := [(h0, .inr (2, [.int (-1), .int 0, .null]))]) rfl ?_
  refine b_aload_n B0 0 dX2_init_9 rfl rfl ?_
  refine b_bipush B0 40 dX2_init_10 rfl ?_
  refine b_newa (atype := .int) (a0 := (40, .inl (fun _ => 0))) B0 0 u_ac_I rfl rfl (fun cA => rfl) (by decide) rfl (le_b rfl) (le_b rfl) (le_b rfl) dX2_init_12 (fun q1 => ?_)
  refine b_putF (C := RX2) (T := TX2) (N := 3) B0 0 rfl 2 tyX2 tyX2_ok nmX2 rfl u_ws_X2 (lt_b rfl) u_f_X2_15 rfl rfl hin rfl rfl rfl rfl (lt_b rfl) dX2_init_14 ?_
  refine BW.eq (ws := [(h0, .inr (2, [.int (-1), .int 0, .ref q1])), (q1, .inl (G.2.1 0, 40, .inl (fun _ => 0)))]) rfl ?_
  refine BW.aw (N := 2) (ad := adL [h0, q1]) (sh := shS G (adL [h0, q1])) (M := x2_0) B0 rfl (fun C0 => ?_)
  refine AW.lo (ls2 := [(0, .ref (adL [h0, q1] 0))]) rfl ?_
  generalize hAD : adL [h0, q1] = ad at C0 ⊢
  exact a_bret C0 hr dX2_init_17 (by rw [← hAD]; rfl) rfl rfl
set_option maxRecDepth 100000 in
set_option maxHeartbeats 4000000 in
theorem c_X3_init (l : Launch) (G : GE) : BTC l G yX3_init cX3_init 1 3 [.int 0, .int 0, .int 0] 1 (shH G) (fun M => M = up2 z0 0 0 0) 1 0 0 := by
  refine BTC.of (own := RX3) rfl rfl rfl (le_b rfl) fun h0 p e s m args below meth c A B0 hr hin => ?_
  refine b_aload_n B0 0 dX3_init_0 rfl rfl ?_
  refine b_obj B0 u_m_X3_1 rfl (le_b rfl) dX3_init_1 ?_
  refine BW.aw (N := 1) (ad := adL [h0]) (sh := shH G (adL [h0])) (M := z0) B0 rfl (fun C0 => ?_)
  refine AW.lo (ls2 := [(0, .ref (adL [h0] 0))]) rfl ?_
  generalize hAD : adL [h0] = ad at C0 ⊢
  refine a_aload_n C0 0 dX3_init_4 rfl rfl ?_
  refine a_iconst C0 0 dX3_init_5 rfl ?_
  refine p_X3_9 C0 (lt_b rfl) rfl (lt_b rfl) rfl rfl dX3_init_6 ?_
  exact a_bret C0 hr dX3_init_9 (by rw [← hAD]; rfl) rfl rfl
set_option maxRecDepth 100000 in
set_option maxHeartbeats 4000000 in
theorem c_X4_init (l : Launch) (G : GE) : BTC l G yX4_init cX4_init 1 4 [.null, .int 0, .int 0, .int 0, .int 0] 2 (shB G) (fun M => M = up2 z0 0 2 0) 1 1 200 := by
  refine BTC.of (own := RX4) rfl rfl rfl (le_b rfl) fun h0 p e s m args below meth c A B0 hr hin => ?_
  refine b_aload_n B0 0 dX4_init_0 rfl rfl ?_
  refine b_obj B0 u_m_X4_3 rfl (le_b rfl) dX4_init_1 ?_
  refine b_aload_n B0 0 dX4_init_4 rfl rfl ?_
  refine b_sipush B0 200 dX4_init_5 rfl ?_
  refine b_newa (atype := .byte) (a0 := (200, .inl (fun _ => 0))) B0 1 u_ac_B rfl rfl (fun cA => rfl) (by decide) rfl (le_b rfl) (le_b rfl) (le_b rfl) dX4_init_8 (fun q1 => ?_)
  refine b_putF (C := RX4) (T := TX4) (N := 5) B0 0 rfl 0 tyX4 tyX4_ok nmX4 rfl u_ws_X4 (lt_b rfl) u_f_X4_9 rfl rfl hin rfl rfl rfl rfl (lt_b rfl) dX4_init_10 ?_
  refine BW.eq (ws := [(h0, .inr (4, [.ref q1, .int 0, .int 0, .int 0, .int 0])), (q1, .inl (G.2.1 1, 200, .inl (fun _ => 0)))]) rfl ?_
  refine BW.aw (N := 2) (ad := adL [h0, q1]) (sh := shB G (adL [h0, q1])) (M := z0) B0 rfl (fun C0 => ?_)
  refine AW.lo (ls2 := [(0, .ref (adL [h0, q1] 0))]) rfl ?_
  generalize hAD : adL [h0, q1] = ad at C0 ⊢
  refine a_aload_n C0 0 dX4_init_13 rfl rfl ?_
  refine a_iconst C0 0 dX4_init_14 rfl ?_
  refine p_X4_15 C0 (lt_b rfl) rfl (lt_b rfl) rfl rfl dX4_init_15 ?_
  exact a_bret C0 hr dX4_init_18 (by rw [← hAD]; rfl) rfl rfl
theorem RP.zz2 {P : WM} {S : RW} {T mm : Nat} {z v : Int32} (r : RP (up2 P 0 10 z) S T mm) : RP (up2 P 0 10 v) (upS S 2 v) T mm := by
  have h := r.zz (v := v)
  rw [show up2 (up2 P 0 10 z) 0 10 v = up2 P 0 10 v from by
    funext c k
    unfold up2
    by_cases h1 : c = 0
    · subst h1
      by_cases h2 : k = 10
      · simp [h2]
      · simp [h2]
    · simp [h1]] at h
  exact h

set_option maxRecDepth 100000 in
set_option maxHeartbeats 4000000 in
theorem c_X6_init (l : Launch) (G : GE) : BTC l G yX6_init cX6_init 1 6 [.null, .null, .null, .null, .int 0, .null, .int 0, .int 0, .int 0, .int 0, .int 0, .int 0, .null, .int 0, .null, .null, .null, .null, .null, .null, .null, .int 0, .int 0, .int 0, .int 0, .int 0] 14 (shM G) (fun M => ∃ O S X, M = mkM O S X ∧ O = (fun _ => 0) ∧ (∀ P0, RP (up2 (firstP P0) 0 10 1) S 0 0) ∧ X = x6_0) 3 13 692 := by
  refine BTC.of (own := RX6) rfl rfl rfl (le_b rfl) fun h0 p e s m args below meth c A B0 hr hin => ?_
  refine b_aload_n B0 0 dX6_init_0 rfl rfl ?_
  refine b_obj B0 u_m_X6_1 rfl (le_b rfl) dX6_init_1 ?_
  refine b_aload_n B0 0 dX6_init_4 rfl rfl ?_
  refine b_bipush B0 63 dX6_init_5 rfl ?_
  refine b_newa (atype := .int) (a0 := (63, .inl (fun _ => 0))) B0 0 u_ac_I rfl rfl (fun cA => rfl) (by decide) rfl (le_b rfl) (le_b rfl) (le_b rfl) dX6_init_7 (fun q1 => ?_)
  refine b_putF (C := RX6) (T := TX6) (N := 26) B0 0 rfl 0 tyX6 tyX6_ok nmX6 rfl u_ws_X6 (lt_b rfl) u_f_X6_7 rfl rfl hin rfl rfl rfl rfl (lt_b rfl) dX6_init_9 ?_
  refine BW.eq (ws := [(h0, .inr (6, [.ref q1, .null, .null, .null, .int 0, .null, .int 0, .int 0, .int 0, .int 0, .int 0, .int 0, .null, .int 0, .null, .null, .null, .null, .null, .null, .null, .int 0, .int 0, .int 0, .int 0, .int 0])), (q1, .inl (G.2.1 0, 63, .inl (fun _ => 0)))]) rfl ?_
  refine b_aload_n B0 0 dX6_init_12 rfl rfl ?_
  refine b_bipush B0 63 dX6_init_13 rfl ?_
  refine b_newa (atype := .int) (a0 := (63, .inl (fun _ => 0))) B0 0 u_ac_I rfl rfl (fun cA => rfl) (by decide) rfl (le_b rfl) (le_b rfl) (le_b rfl) dX6_init_15 (fun q2 => ?_)
  refine b_putF (C := RX6) (T := TX6) (N := 26) B0 0 rfl 1 tyX6 tyX6_ok nmX6 rfl u_ws_X6 (lt_b rfl) u_f_X6_13 rfl rfl hin rfl rfl rfl rfl (lt_b rfl) dX6_init_17 ?_
  refine BW.eq (ws := [(h0, .inr (6, [.ref q1, .ref q2, .null, .null, .int 0, .null, .int 0, .int 0, .int 0, .int 0, .int 0, .int 0, .null, .int 0, .null, .null, .null, .null, .null, .null, .null, .int 0, .int 0, .int 0, .int 0, .int 0])), (q1, .inl (G.2.1 0, 63, .inl (fun _ => 0))), (q2, .inl (G.2.1 0, 63, .inl (fun _ => 0)))]) rfl ?_
  refine b_aload_n B0 0 dX6_init_20 rfl rfl ?_
  refine b_bipush B0 63 dX6_init_21 rfl ?_
  refine b_newa (atype := .int) (a0 := (63, .inl (fun _ => 0))) B0 0 u_ac_I rfl rfl (fun cA => rfl) (by decide) rfl (le_b rfl) (le_b rfl) (le_b rfl) dX6_init_23 (fun q3 => ?_)
  refine b_putF (C := RX6) (T := TX6) (N := 26) B0 0 rfl 2 tyX6 tyX6_ok nmX6 rfl u_ws_X6 (lt_b rfl) u_f_X6_16 rfl rfl hin rfl rfl rfl rfl (lt_b rfl) dX6_init_25 ?_
  refine BW.eq (ws := [(h0, .inr (6, [.ref q1, .ref q2, .ref q3, .null, .int 0, .null, .int 0, .int 0, .int 0, .int 0, .int 0, .int 0, .null, .int 0, .null, .null, .null, .null, .null, .null, .null, .int 0, .int 0, .int 0, .int 0, .int 0])), (q1, .inl (G.2.1 0, 63, .inl (fun _ => 0))), (q2, .inl (G.2.1 0, 63, .inl (fun _ => 0))), (q3, .inl (G.2.1 0, 63, .inl (fun _ => 0)))]) rfl ?_
  refine b_aload_n B0 0 dX6_init_28 rfl rfl ?_
  refine b_bipush B0 63 dX6_init_29 rfl ?_
  refine b_newa (atype := .int) (a0 := (63, .inl (fun _ => 0))) B0 0 u_ac_I rfl rfl (fun cA => rfl) (by decide) rfl (le_b rfl) (le_b rfl) (le_b rfl) dX6_init_31 (fun q4 => ?_)
  refine b_putF (C := RX6) (T := TX6) (N := 26) B0 0 rfl 3 tyX6 tyX6_ok nmX6 rfl u_ws_X6 (lt_b rfl) u_f_X6_19 rfl rfl hin rfl rfl rfl rfl (lt_b rfl) dX6_init_33 ?_
  refine BW.eq (ws := [(h0, .inr (6, [.ref q1, .ref q2, .ref q3, .ref q4, .int 0, .null, .int 0, .int 0, .int 0, .int 0, .int 0, .int 0, .null, .int 0, .null, .null, .null, .null, .null, .null, .null, .int 0, .int 0, .int 0, .int 0, .int 0])), (q1, .inl (G.2.1 0, 63, .inl (fun _ => 0))), (q2, .inl (G.2.1 0, 63, .inl (fun _ => 0))), (q3, .inl (G.2.1 0, 63, .inl (fun _ => 0))), (q4, .inl (G.2.1 0, 63, .inl (fun _ => 0)))]) rfl ?_
  refine b_aload_n B0 0 dX6_init_36 rfl rfl ?_
  refine b_sipush B0 200 dX6_init_37 rfl ?_
  refine b_newa (atype := .int) (a0 := (200, .inl (fun _ => 0))) B0 0 u_ac_I rfl rfl (fun cA => rfl) (by decide) rfl (le_b rfl) (le_b rfl) (le_b rfl) dX6_init_40 (fun q5 => ?_)
  refine b_putF (C := RX6) (T := TX6) (N := 26) B0 0 rfl 5 tyX6 tyX6_ok nmX6 rfl u_ws_X6 (lt_b rfl) u_f_X6_22 rfl rfl hin rfl rfl rfl rfl (lt_b rfl) dX6_init_42 ?_
  refine BW.eq (ws := [(h0, .inr (6, [.ref q1, .ref q2, .ref q3, .ref q4, .int 0, .ref q5, .int 0, .int 0, .int 0, .int 0, .int 0, .int 0, .null, .int 0, .null, .null, .null, .null, .null, .null, .null, .int 0, .int 0, .int 0, .int 0, .int 0])), (q1, .inl (G.2.1 0, 63, .inl (fun _ => 0))), (q2, .inl (G.2.1 0, 63, .inl (fun _ => 0))), (q3, .inl (G.2.1 0, 63, .inl (fun _ => 0))), (q4, .inl (G.2.1 0, 63, .inl (fun _ => 0))), (q5, .inl (G.2.1 0, 200, .inl (fun _ => 0)))]) rfl ?_
  refine b_aload_n B0 0 dX6_init_45 rfl rfl ?_
  refine b_bipush B0 30 dX6_init_46 rfl ?_
  refine b_newa (atype := .int) (a0 := (30, .inl (fun _ => 0))) B0 0 u_ac_I rfl rfl (fun cA => rfl) (by decide) rfl (le_b rfl) (le_b rfl) (le_b rfl) dX6_init_48 (fun q6 => ?_)
  refine b_putF (C := RX6) (T := TX6) (N := 26) B0 0 rfl 12 tyX6 tyX6_ok nmX6 rfl u_ws_X6 (lt_b rfl) u_f_X6_25 rfl rfl hin rfl rfl rfl rfl (lt_b rfl) dX6_init_50 ?_
  refine BW.eq (ws := [(h0, .inr (6, [.ref q1, .ref q2, .ref q3, .ref q4, .int 0, .ref q5, .int 0, .int 0, .int 0, .int 0, .int 0, .int 0, .ref q6, .int 0, .null, .null, .null, .null, .null, .null, .null, .int 0, .int 0, .int 0, .int 0, .int 0])), (q1, .inl (G.2.1 0, 63, .inl (fun _ => 0))), (q2, .inl (G.2.1 0, 63, .inl (fun _ => 0))), (q3, .inl (G.2.1 0, 63, .inl (fun _ => 0))), (q4, .inl (G.2.1 0, 63, .inl (fun _ => 0))), (q5, .inl (G.2.1 0, 200, .inl (fun _ => 0))), (q6, .inl (G.2.1 0, 30, .inl (fun _ => 0)))]) rfl ?_
  refine b_aload_n B0 0 dX6_init_53 rfl rfl ?_
  refine b_iconst B0 4 dX6_init_54 rfl ?_
  refine b_newa (atype := .int) (a0 := (4, .inl (fun _ => 0))) B0 0 u_ac_I rfl rfl (fun cA => rfl) (by decide) rfl (le_b rfl) (le_b rfl) (le_b rfl) dX6_init_55 (fun q7 => ?_)
  refine b_dup B0 dX6_init_57 rfl ?_
  refine b_iconst B0 0 dX6_init_58 rfl ?_
  refine b_iconst B0 (-1) dX6_init_59 rfl ?_
  refine b_iast B0 7 rfl (vq rfl) dX6_init_60 ?_
  refine b_dup B0 dX6_init_61 rfl ?_
  refine b_iconst B0 1 dX6_init_62 rfl ?_
  refine b_iconst B0 (-1) dX6_init_63 rfl ?_
  refine b_iast B0 7 rfl (vq rfl) dX6_init_64 ?_
  refine b_dup B0 dX6_init_65 rfl ?_
  refine b_iconst B0 2 dX6_init_66 rfl ?_
  refine b_iconst B0 (-1) dX6_init_67 rfl ?_
  refine b_iast B0 7 rfl (vq rfl) dX6_init_68 ?_
  refine b_dup B0 dX6_init_69 rfl ?_
  refine b_iconst B0 3 dX6_init_70 rfl ?_
  refine b_iconst B0 (-1) dX6_init_71 rfl ?_
  refine b_iast B0 7 rfl (vq rfl) dX6_init_72 ?_
  refine b_putF (C := RX6) (T := TX6) (N := 26) B0 0 rfl 14 tyX6 tyX6_ok nmX6 rfl u_ws_X6 (lt_b rfl) u_f_X6_28 rfl rfl hin rfl rfl rfl rfl (lt_b rfl) dX6_init_73 ?_
  refine BW.eq (ws := [(h0, .inr (6, [.ref q1, .ref q2, .ref q3, .ref q4, .int 0, .ref q5, .int 0, .int 0, .int 0, .int 0, .int 0, .int 0, .ref q6, .int 0, .ref q7, .null, .null, .null, .null, .null, .null, .int 0, .int 0, .int 0, .int 0, .int 0])), (q1, .inl (G.2.1 0, 63, .inl (fun _ => 0))), (q2, .inl (G.2.1 0, 63, .inl (fun _ => 0))), (q3, .inl (G.2.1 0, 63, .inl (fun _ => 0))), (q4, .inl (G.2.1 0, 63, .inl (fun _ => 0))), (q5, .inl (G.2.1 0, 200, .inl (fun _ => 0))), (q6, .inl (G.2.1 0, 30, .inl (fun _ => 0))), (q7, .inl (G.2.1 0, 4, .inl (upd (upd (upd (upd (fun _ => 0) 0 (-1)) 1 (-1)) 2 (-1)) 3 (-1))))]) rfl ?_
  refine b_aload_n B0 0 dX6_init_76 rfl rfl ?_
  refine b_iconst B0 4 dX6_init_77 rfl ?_
  refine b_newa (atype := .int) (a0 := (4, .inl (fun _ => 0))) B0 0 u_ac_I rfl rfl (fun cA => rfl) (by decide) rfl (le_b rfl) (le_b rfl) (le_b rfl) dX6_init_78 (fun q8 => ?_)
  refine b_putF (C := RX6) (T := TX6) (N := 26) B0 0 rfl 15 tyX6 tyX6_ok nmX6 rfl u_ws_X6 (lt_b rfl) u_f_X6_31 rfl rfl hin rfl rfl rfl rfl (lt_b rfl) dX6_init_80 ?_
  refine BW.eq (ws := [(h0, .inr (6, [.ref q1, .ref q2, .ref q3, .ref q4, .int 0, .ref q5, .int 0, .int 0, .int 0, .int 0, .int 0, .int 0, .ref q6, .int 0, .ref q7, .ref q8, .null, .null, .null, .null, .null, .int 0, .int 0, .int 0, .int 0, .int 0])), (q1, .inl (G.2.1 0, 63, .inl (fun _ => 0))), (q2, .inl (G.2.1 0, 63, .inl (fun _ => 0))), (q3, .inl (G.2.1 0, 63, .inl (fun _ => 0))), (q4, .inl (G.2.1 0, 63, .inl (fun _ => 0))), (q5, .inl (G.2.1 0, 200, .inl (fun _ => 0))), (q6, .inl (G.2.1 0, 30, .inl (fun _ => 0))), (q7, .inl (G.2.1 0, 4, .inl (upd (upd (upd (upd (fun _ => 0) 0 (-1)) 1 (-1)) 2 (-1)) 3 (-1)))), (q8, .inl (G.2.1 0, 4, .inl (fun _ => 0)))]) rfl ?_
  refine b_aload_n B0 0 dX6_init_83 rfl rfl ?_
  refine b_sipush B0 160 dX6_init_84 rfl ?_
  refine b_newa (atype := .int) (a0 := (160, .inl (fun _ => 0))) B0 0 u_ac_I rfl rfl (fun cA => rfl) (by decide) rfl (le_b rfl) (le_b rfl) (le_b rfl) dX6_init_87 (fun q9 => ?_)
  refine b_putF (C := RX6) (T := TX6) (N := 26) B0 0 rfl 16 tyX6 tyX6_ok nmX6 rfl u_ws_X6 (lt_b rfl) u_f_X6_34 rfl rfl hin rfl rfl rfl rfl (lt_b rfl) dX6_init_89 ?_
  refine BW.eq (ws := [(h0, .inr (6, [.ref q1, .ref q2, .ref q3, .ref q4, .int 0, .ref q5, .int 0, .int 0, .int 0, .int 0, .int 0, .int 0, .ref q6, .int 0, .ref q7, .ref q8, .ref q9, .null, .null, .null, .null, .int 0, .int 0, .int 0, .int 0, .int 0])), (q1, .inl (G.2.1 0, 63, .inl (fun _ => 0))), (q2, .inl (G.2.1 0, 63, .inl (fun _ => 0))), (q3, .inl (G.2.1 0, 63, .inl (fun _ => 0))), (q4, .inl (G.2.1 0, 63, .inl (fun _ => 0))), (q5, .inl (G.2.1 0, 200, .inl (fun _ => 0))), (q6, .inl (G.2.1 0, 30, .inl (fun _ => 0))), (q7, .inl (G.2.1 0, 4, .inl (upd (upd (upd (upd (fun _ => 0) 0 (-1)) 1 (-1)) 2 (-1)) 3 (-1)))), (q8, .inl (G.2.1 0, 4, .inl (fun _ => 0))), (q9, .inl (G.2.1 0, 160, .inl (fun _ => 0)))]) rfl ?_
  refine b_aload_n B0 0 dX6_init_92 rfl rfl ?_
  refine b_iconst B0 4 dX6_init_93 rfl ?_
  refine b_newa (atype := .int) (a0 := (4, .inl (fun _ => 0))) B0 0 u_ac_I rfl rfl (fun cA => rfl) (by decide) rfl (le_b rfl) (le_b rfl) (le_b rfl) dX6_init_94 (fun q10 => ?_)
  refine b_putF (C := RX6) (T := TX6) (N := 26) B0 0 rfl 17 tyX6 tyX6_ok nmX6 rfl u_ws_X6 (lt_b rfl) u_f_X6_37 rfl rfl hin rfl rfl rfl rfl (lt_b rfl) dX6_init_96 ?_
  refine BW.eq (ws := [(h0, .inr (6, [.ref q1, .ref q2, .ref q3, .ref q4, .int 0, .ref q5, .int 0, .int 0, .int 0, .int 0, .int 0, .int 0, .ref q6, .int 0, .ref q7, .ref q8, .ref q9, .ref q10, .null, .null, .null, .int 0, .int 0, .int 0, .int 0, .int 0])), (q1, .inl (G.2.1 0, 63, .inl (fun _ => 0))), (q2, .inl (G.2.1 0, 63, .inl (fun _ => 0))), (q3, .inl (G.2.1 0, 63, .inl (fun _ => 0))), (q4, .inl (G.2.1 0, 63, .inl (fun _ => 0))), (q5, .inl (G.2.1 0, 200, .inl (fun _ => 0))), (q6, .inl (G.2.1 0, 30, .inl (fun _ => 0))), (q7, .inl (G.2.1 0, 4, .inl (upd (upd (upd (upd (fun _ => 0) 0 (-1)) 1 (-1)) 2 (-1)) 3 (-1)))), (q8, .inl (G.2.1 0, 4, .inl (fun _ => 0))), (q9, .inl (G.2.1 0, 160, .inl (fun _ => 0))), (q10, .inl (G.2.1 0, 4, .inl (fun _ => 0)))]) rfl ?_
  refine b_aload_n B0 0 dX6_init_99 rfl rfl ?_
  refine b_iconst B0 4 dX6_init_100 rfl ?_
  refine b_newa (atype := .int) (a0 := (4, .inl (fun _ => 0))) B0 0 u_ac_I rfl rfl (fun cA => rfl) (by decide) rfl (le_b rfl) (le_b rfl) (le_b rfl) dX6_init_101 (fun q11 => ?_)
  refine b_putF (C := RX6) (T := TX6) (N := 26) B0 0 rfl 18 tyX6 tyX6_ok nmX6 rfl u_ws_X6 (lt_b rfl) u_f_X6_40 rfl rfl hin rfl rfl rfl rfl (lt_b rfl) dX6_init_103 ?_
  refine BW.eq (ws := [(h0, .inr (6, [.ref q1, .ref q2, .ref q3, .ref q4, .int 0, .ref q5, .int 0, .int 0, .int 0, .int 0, .int 0, .int 0, .ref q6, .int 0, .ref q7, .ref q8, .ref q9, .ref q10, .ref q11, .null, .null, .int 0, .int 0, .int 0, .int 0, .int 0])), (q1, .inl (G.2.1 0, 63, .inl (fun _ => 0))), (q2, .inl (G.2.1 0, 63, .inl (fun _ => 0))), (q3, .inl (G.2.1 0, 63, .inl (fun _ => 0))), (q4, .inl (G.2.1 0, 63, .inl (fun _ => 0))), (q5, .inl (G.2.1 0, 200, .inl (fun _ => 0))), (q6, .inl (G.2.1 0, 30, .inl (fun _ => 0))), (q7, .inl (G.2.1 0, 4, .inl (upd (upd (upd (upd (fun _ => 0) 0 (-1)) 1 (-1)) 2 (-1)) 3 (-1)))), (q8, .inl (G.2.1 0, 4, .inl (fun _ => 0))), (q9, .inl (G.2.1 0, 160, .inl (fun _ => 0))), (q10, .inl (G.2.1 0, 4, .inl (fun _ => 0))), (q11, .inl (G.2.1 0, 4, .inl (fun _ => 0)))]) rfl ?_
  refine b_aload_n B0 0 dX6_init_106 rfl rfl ?_
  refine b_iconst B0 4 dX6_init_107 rfl ?_
  refine b_newa (atype := .int) (a0 := (4, .inl (fun _ => 0))) B0 0 u_ac_I rfl rfl (fun cA => rfl) (by decide) rfl (le_b rfl) (le_b rfl) (le_b rfl) dX6_init_108 (fun q12 => ?_)
  refine b_putF (C := RX6) (T := TX6) (N := 26) B0 0 rfl 19 tyX6 tyX6_ok nmX6 rfl u_ws_X6 (lt_b rfl) u_f_X6_43 rfl rfl hin rfl rfl rfl rfl (lt_b rfl) dX6_init_110 ?_
  refine BW.eq (ws := [(h0, .inr (6, [.ref q1, .ref q2, .ref q3, .ref q4, .int 0, .ref q5, .int 0, .int 0, .int 0, .int 0, .int 0, .int 0, .ref q6, .int 0, .ref q7, .ref q8, .ref q9, .ref q10, .ref q11, .ref q12, .null, .int 0, .int 0, .int 0, .int 0, .int 0])), (q1, .inl (G.2.1 0, 63, .inl (fun _ => 0))), (q2, .inl (G.2.1 0, 63, .inl (fun _ => 0))), (q3, .inl (G.2.1 0, 63, .inl (fun _ => 0))), (q4, .inl (G.2.1 0, 63, .inl (fun _ => 0))), (q5, .inl (G.2.1 0, 200, .inl (fun _ => 0))), (q6, .inl (G.2.1 0, 30, .inl (fun _ => 0))), (q7, .inl (G.2.1 0, 4, .inl (upd (upd (upd (upd (fun _ => 0) 0 (-1)) 1 (-1)) 2 (-1)) 3 (-1)))), (q8, .inl (G.2.1 0, 4, .inl (fun _ => 0))), (q9, .inl (G.2.1 0, 160, .inl (fun _ => 0))), (q10, .inl (G.2.1 0, 4, .inl (fun _ => 0))), (q11, .inl (G.2.1 0, 4, .inl (fun _ => 0))), (q12, .inl (G.2.1 0, 4, .inl (fun _ => 0)))]) rfl ?_
  refine b_aload_n B0 0 dX6_init_113 rfl rfl ?_
  refine b_bipush B0 30 dX6_init_114 rfl ?_
  refine b_newa (atype := .int) (a0 := (30, .inl (fun _ => 0))) B0 0 u_ac_I rfl rfl (fun cA => rfl) (by decide) rfl (le_b rfl) (le_b rfl) (le_b rfl) dX6_init_116 (fun q13 => ?_)
  refine b_putF (C := RX6) (T := TX6) (N := 26) B0 0 rfl 20 tyX6 tyX6_ok nmX6 rfl u_ws_X6 (lt_b rfl) u_f_X6_46 rfl rfl hin rfl rfl rfl rfl (lt_b rfl) dX6_init_118 ?_
  refine BW.eq (ws := [(h0, .inr (6, [.ref q1, .ref q2, .ref q3, .ref q4, .int 0, .ref q5, .int 0, .int 0, .int 0, .int 0, .int 0, .int 0, .ref q6, .int 0, .ref q7, .ref q8, .ref q9, .ref q10, .ref q11, .ref q12, .ref q13, .int 0, .int 0, .int 0, .int 0, .int 0])), (q1, .inl (G.2.1 0, 63, .inl (fun _ => 0))), (q2, .inl (G.2.1 0, 63, .inl (fun _ => 0))), (q3, .inl (G.2.1 0, 63, .inl (fun _ => 0))), (q4, .inl (G.2.1 0, 63, .inl (fun _ => 0))), (q5, .inl (G.2.1 0, 200, .inl (fun _ => 0))), (q6, .inl (G.2.1 0, 30, .inl (fun _ => 0))), (q7, .inl (G.2.1 0, 4, .inl (upd (upd (upd (upd (fun _ => 0) 0 (-1)) 1 (-1)) 2 (-1)) 3 (-1)))), (q8, .inl (G.2.1 0, 4, .inl (fun _ => 0))), (q9, .inl (G.2.1 0, 160, .inl (fun _ => 0))), (q10, .inl (G.2.1 0, 4, .inl (fun _ => 0))), (q11, .inl (G.2.1 0, 4, .inl (fun _ => 0))), (q12, .inl (G.2.1 0, 4, .inl (fun _ => 0))), (q13, .inl (G.2.1 0, 30, .inl (fun _ => 0)))]) rfl ?_
  refine BW.aw (N := 14) (ad := adL [h0, q1, q2, q3, q4, q5, q6, q7, q8, q9, q10, q11, q12, q13]) (sh := shM G (adL [h0, q1, q2, q3, q4, q5, q6, q7, q8, q9, q10, q11, q12, q13])) (M := (mkM (fun _ => 0) (fun _ => 0) x6_0)) B0 rfl (fun C0 => ?_)
  refine AW.lo (ls2 := [(0, .ref (adL [h0, q1, q2, q3, q4, q5, q6, q7, q8, q9, q10, q11, q12, q13] 0))]) rfl ?_
  generalize hAD : adL [h0, q1, q2, q3, q4, q5, q6, q7, q8, q9, q10, q11, q12, q13] = ad at C0 ⊢
  refine a_aload_n C0 0 dX6_init_121 rfl rfl ?_
  refine a_callV _ 0 C0 EM.refl (c_X6_begins l G rfl) u_c_X6_begins u_m_X6_49 u_im_X6_begins u_se_X6_begins u_in_X6 hy_X6_begins rfl (lt_b rfl) rfl (hRk rfl) rfl rfl (le_b rfl) dX6_init_122 (k_v fun u122 q122 => ?_)
  obtain ⟨S2, rfl, g122⟩ := q122
  refine a_aload_n C0 0 dX6_init_125 rfl rfl ?_
  refine g_X6_7 C0 (lt_b rfl) rfl rfl dX6_init_126 ?_
  refine a_iconst C0 2 dX6_init_129 rfl ?_
  refine a_iconst C0 1 dX6_init_130 rfl ?_
  refine a_iast C0 2 (lt_b rfl) (fun _ => rfl) (vq rfl) rfl dX6_init_131 ?_
  rw [mkM_S]
  exact a_bret C0 hr dX6_init_132 (by rw [← hAD]; rfl) rfl ⟨_, _, _, rfl, rfl, fun P0 => (g122 P0).zz2, rfl⟩
