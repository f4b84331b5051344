
def p1_0 : WM := firstP (up2 z0 0 10 1)
def s1_0 : WM := fun c => if c % 2 = 0 then x2_0 0 else x2_0 1
def h1_0 : WM := fun _ => up2 z0 0 0 0 0
theorem up4_ {f : Nat → Nat} {a b c d : Nat} (h0 : a = f 0) (h1 : b = f 1) (h2 : c = f 2) (h3 : d = f 3) : va_up (va_up (va_up (va_up (fun _ => none) (Int32.toNatClampNeg 0) (some a)) (Int32.toNatClampNeg 1) (some b)) (Int32.toNatClampNeg 2) (some c)) (Int32.toNatClampNeg 3) (some d) = fun i => if i < 4 then some (f i) else none := by
  subst h0 h1 h2 h3
  funext i
  match i with
  | 0 => rfl
  | 1 => rfl
  | 2 => rfl
  | 3 => rfl
  | i + 4 =>
    rw [if_neg (by omega)]
    show (if i + 4 = 3 then _ else if i + 4 = 2 then _ else if i + 4 = 1 then _ else if i + 4 = 0 then _ else none) = none
    rw [if_neg (by omega), if_neg (by omega), if_neg (by omega), if_neg (by omega)]
theorem up10_ {q : Nat} {f : Nat → Nat} (h : ∀ i, i < 10 → q + 1 + i = f i) : (fun i => if i < 10 then some (q + 1 + i) else none) = fun i => if i < 10 then some (f i) else none := by
  funext i
  by_cases c : i < 10
  · rw [if_pos c, if_pos c, h i c]
  · rw [if_neg c, if_neg c]

set_option maxRecDepth 100000 in
set_option maxHeartbeats 8000000 in
theorem c_X5_init (l : Launch) (G : GE) : BTC l G yX5_init cX5_init 2 5 [.null, .null, .null, .int 0, .null, .null, .int 0, .null, .null, .null] 54 (shX G) (fun M => M = (mkX (fun _ => 0) p1_0 p1_0 p1_0 (up2 z0 0 2 0) z0 s1_0 h1_0 z0)) 3 53 662 := by
  refine BTC.of (own := RX5) rfl rfl rfl (le_b rfl) fun h0 p e s m args below meth c A B0 hr hin => ?_
  refine b_aload_n B0 0 dX5_init_0 rfl rfl ?_
  refine b_obj B0 u_m_X5_1 rfl (le_b rfl) dX5_init_1 ?_
  refine b_aload_n B0 0 dX5_init_4 rfl rfl ?_
  refine b_new (ci := 1) (fs := [.null, .null, .null, .null, .null, .null, .null, .int 0, .int 0, .int 0, .int 0]) (C := RX1) (T := TX1) (N := 11) B0 u_ws_X1 tyX1 tyX1_ok u_cl_X5_7 u_ia_X1 u_in_X1 rfl (by decide +kernel) (le_b rfl) (le_b rfl) dX5_init_5 (fun q1 => ?_)
  refine b_dup B0 dX5_init_8 rfl ?_
  refine b_callIo B0 (c_X1_init l G) u_c_X1_init u_m_X5_9 u_im_X1_init u_in_X1 rfl (by decide +kernel) ⟨le_b rfl, le_b rfl, le_b rfl, le_b rfl⟩ (le_b rfl) dX5_init_9 (fun a1 M1 had hM => ?_)
  subst hM
  subst had
  refine BW.eq (ws := ((h0, .inr (5, [.null, .null, .null, .int 0, .null, .null, .int 0, .null, .null, .null])) :: wC 8 a1 (shP G a1) (firstP (up2 z0 0 10 1)))) rfl ?_
  refine b_putF (C := RX5) (T := TX5) (N := 10) B0 0 rfl 0 tyX5 tyX5_ok nmX5 rfl u_ws_X5 (lt_b rfl) u_f_X5_10 rfl rfl hin rfl rfl rfl rfl (lt_b rfl) dX5_init_12 ?_
  refine BW.eq (ws := ((h0, .inr (5, [.ref (a1 0), .null, .null, .int 0, .null, .null, .int 0, .null, .null, .null])) :: wC 8 a1 (shP G a1) (firstP (up2 z0 0 10 1)))) rfl ?_
  refine b_aload_n B0 0 dX5_init_15 rfl rfl ?_
  refine b_new (ci := 1) (fs := [.null, .null, .null, .null, .null, .null, .null, .int 0, .int 0, .int 0, .int 0]) (C := RX1) (T := TX1) (N := 11) B0 u_ws_X1 tyX1 tyX1_ok u_cl_X5_7 u_ia_X1 u_in_X1 rfl (by decide +kernel) (le_b rfl) (le_b rfl) dX5_init_16 (fun q2 => ?_)
  refine b_dup B0 dX5_init_19 rfl ?_
  refine b_callIo B0 (c_X1_init l G) u_c_X1_init u_m_X5_9 u_im_X1_init u_in_X1 rfl (by decide +kernel) ⟨le_b rfl, le_b rfl, le_b rfl, le_b rfl⟩ (le_b rfl) dX5_init_20 (fun a2 M2 had hM => ?_)
  subst hM
  subst had
  refine BW.eq (ws := ((h0, .inr (5, [.ref (a1 0), .null, .null, .int 0, .null, .null, .int 0, .null, .null, .null])) :: (wC 8 a1 (shP G a1) (firstP (up2 z0 0 10 1)) ++ wC 8 a2 (shP G a2) (firstP (up2 z0 0 10 1))))) rfl ?_
  refine b_putF (C := RX5) (T := TX5) (N := 10) B0 0 rfl 1 tyX5 tyX5_ok nmX5 rfl u_ws_X5 (lt_b rfl) u_f_X5_16 rfl rfl hin rfl rfl rfl rfl (lt_b rfl) dX5_init_23 ?_
  refine BW.eq (ws := ((h0, .inr (5, [.ref (a1 0), .ref (a2 0), .null, .int 0, .null, .null, .int 0, .null, .null, .null])) :: (wC 8 a1 (shP G a1) (firstP (up2 z0 0 10 1)) ++ wC 8 a2 (shP G a2) (firstP (up2 z0 0 10 1))))) rfl ?_
  refine b_aload_n B0 0 dX5_init_26 rfl rfl ?_
  refine b_new (ci := 1) (fs := [.null, .null, .null, .null, .null, .null, .null, .int 0, .int 0, .int 0, .int 0]) (C := RX1) (T := TX1) (N := 11) B0 u_ws_X1 tyX1 tyX1_ok u_cl_X5_7 u_ia_X1 u_in_X1 rfl (by decide +kernel) (le_b rfl) (le_b rfl) dX5_init_27 (fun q3 => ?_)
  refine b_dup B0 dX5_init_30 rfl ?_
  refine b_callIo B0 (c_X1_init l G) u_c_X1_init u_m_X5_9 u_im_X1_init u_in_X1 rfl (by decide +kernel) ⟨le_b rfl, le_b rfl, le_b rfl, le_b rfl⟩ (le_b rfl) dX5_init_31 (fun a3 M3 had hM => ?_)
  subst hM
  subst had
  refine BW.eq (ws := ((h0, .inr (5, [.ref (a1 0), .ref (a2 0), .null, .int 0, .null, .null, .int 0, .null, .null, .null])) :: ((wC 8 a1 (shP G a1) (firstP (up2 z0 0 10 1)) ++ wC 8 a2 (shP G a2) (firstP (up2 z0 0 10 1))) ++ wC 8 a3 (shP G a3) (firstP (up2 z0 0 10 1))))) rfl ?_
  refine b_putF (C := RX5) (T := TX5) (N := 10) B0 0 rfl 2 tyX5 tyX5_ok nmX5 rfl u_ws_X5 (lt_b rfl) u_f_X5_19 rfl rfl hin rfl rfl rfl rfl (lt_b rfl) dX5_init_34 ?_
  refine BW.eq (ws := ((h0, .inr (5, [.ref (a1 0), .ref (a2 0), .ref (a3 0), .int 0, .null, .null, .int 0, .null, .null, .null])) :: ((wC 8 a1 (shP G a1) (firstP (up2 z0 0 10 1)) ++ wC 8 a2 (shP G a2) (firstP (up2 z0 0 10 1))) ++ wC 8 a3 (shP G a3) (firstP (up2 z0 0 10 1))))) rfl ?_
  refine b_aload_n B0 0 dX5_init_37 rfl rfl ?_
  refine b_new (ci := 4) (fs := [.null, .int 0, .int 0, .int 0, .int 0]) (C := RX4) (T := TX4) (N := 5) B0 u_ws_X4 tyX4 tyX4_ok u_cl_X5_22 u_ia_X4 u_in_X4 rfl (by decide +kernel) (le_b rfl) (le_b rfl) dX5_init_38 (fun q4 => ?_)
  refine b_dup B0 dX5_init_41 rfl ?_
  refine b_callIn B0 (c_X4_init l G) u_c_X4_init B0.zw.2.2.2.1 u_im_X4_init u_in_X4 rfl (by decide +kernel) ⟨le_b rfl, le_b rfl, le_b rfl, le_b rfl⟩ (le_b rfl) dX5_init_42 (fun a4 M4 had hM => ?_)
  subst hM
  subst had
  refine BW.eq (ws := ((h0, .inr (5, [.ref (a1 0), .ref (a2 0), .ref (a3 0), .int 0, .null, .null, .int 0, .null, .null, .null])) :: (((wC 8 a1 (shP G a1) (firstP (up2 z0 0 10 1)) ++ wC 8 a2 (shP G a2) (firstP (up2 z0 0 10 1))) ++ wC 8 a3 (shP G a3) (firstP (up2 z0 0 10 1))) ++ wC 2 a4 (shB G a4) (up2 z0 0 2 0)))) rfl ?_
  refine b_putF (C := RX5) (T := TX5) (N := 10) B0 0 rfl 4 tyX5 tyX5_ok nmX5 rfl u_ws_X5 (lt_b rfl) u_f_X5_25 rfl rfl hin rfl rfl rfl rfl (lt_b rfl) dX5_init_45 ?_
  refine BW.eq (ws := ((h0, .inr (5, [.ref (a1 0), .ref (a2 0), .ref (a3 0), .int 0, .ref (a4 0), .null, .int 0, .null, .null, .null])) :: (((wC 8 a1 (shP G a1) (firstP (up2 z0 0 10 1)) ++ wC 8 a2 (shP G a2) (firstP (up2 z0 0 10 1))) ++ wC 8 a3 (shP G a3) (firstP (up2 z0 0 10 1))) ++ wC 2 a4 (shB G a4) (up2 z0 0 2 0)))) rfl ?_
  refine b_aload_n B0 0 dX5_init_48 rfl rfl ?_
  refine b_bipush B0 10 dX5_init_49 rfl ?_
  refine b_iconst B0 3 dX5_init_51 rfl ?_
  refine b_grid B0 u_cl_X5_29 (le_b rfl) (le_b rfl) dX5_init_52 (fun q5 => ?_)
  refine BW.eq (ws := ((h0, .inr (5, [.ref (a1 0), .ref (a2 0), .ref (a3 0), .int 0, .ref (a4 0), .null, .int 0, .null, .null, .null])) :: ((((wC 8 a1 (shP G a1) (firstP (up2 z0 0 10 1)) ++ wC 8 a2 (shP G a2) (firstP (up2 z0 0 10 1))) ++ wC 8 a3 (shP G a3) (firstP (up2 z0 0 10 1))) ++ wC 2 a4 (shB G a4) (up2 z0 0 2 0)) ++ ((q5, .inl (G.2.1 2, 10, .inr (.inr (.inr (.inr (fun i => if i < 10 then some (q5 + 1 + i) else none)))))) :: (List.range 10).map (fun j => (q5 + 1 + j, .inl (G.2.1 0, 3, .inl (fun _ => 0)))))))) rfl ?_
  refine b_putF (C := RX5) (T := TX5) (N := 10) B0 0 rfl 5 tyX5 tyX5_ok nmX5 rfl u_ws_X5 (lt_b rfl) u_f_X5_31 rfl rfl hin rfl rfl rfl rfl (lt_b rfl) dX5_init_56 ?_
  refine BW.eq (ws := ((h0, .inr (5, [.ref (a1 0), .ref (a2 0), .ref (a3 0), .int 0, .ref (a4 0), .ref q5, .int 0, .null, .null, .null])) :: ((((wC 8 a1 (shP G a1) (firstP (up2 z0 0 10 1)) ++ wC 8 a2 (shP G a2) (firstP (up2 z0 0 10 1))) ++ wC 8 a3 (shP G a3) (firstP (up2 z0 0 10 1))) ++ wC 2 a4 (shB G a4) (up2 z0 0 2 0)) ++ ((q5, .inl (G.2.1 2, 10, .inr (.inr (.inr (.inr (fun i => if i < 10 then some (q5 + 1 + i) else none)))))) :: (List.range 10).map (fun j => (q5 + 1 + j, .inl (G.2.1 0, 3, .inl (fun _ => 0)))))))) rfl ?_
  refine b_aload_n B0 0 dX5_init_59 rfl rfl ?_
  refine b_iconst B0 4 dX5_init_60 rfl ?_
  refine b_newq B0 3 u_cl_X5_34 B0.zw.2.1 rfl (by decide) rfl (le_b rfl) (le_b rfl) (le_b rfl) dX5_init_61 (fun q6 => ?_)
  refine BW.eq (ws := ((h0, .inr (5, [.ref (a1 0), .ref (a2 0), .ref (a3 0), .int 0, .ref (a4 0), .ref q5, .int 0, .null, .null, .null])) :: (((((wC 8 a1 (shP G a1) (firstP (up2 z0 0 10 1)) ++ wC 8 a2 (shP G a2) (firstP (up2 z0 0 10 1))) ++ wC 8 a3 (shP G a3) (firstP (up2 z0 0 10 1))) ++ wC 2 a4 (shB G a4) (up2 z0 0 2 0)) ++ ((q5, .inl (G.2.1 2, 10, .inr (.inr (.inr (.inr (fun i => if i < 10 then some (q5 + 1 + i) else none)))))) :: (List.range 10).map (fun j => (q5 + 1 + j, .inl (G.2.1 0, 3, .inl (fun _ => 0)))))) ++ [(q6, .inl (G.2.1 3, 4, .inr (.inr (.inr (.inr (fun _ => none))))))]))) rfl ?_
  refine b_putF (C := RX5) (T := TX5) (N := 10) B0 0 rfl 7 tyX5 tyX5_ok nmX5 rfl u_ws_X5 (lt_b rfl) u_f_X5_36 rfl rfl hin rfl rfl rfl rfl (lt_b rfl) dX5_init_64 ?_
  refine BW.eq (ws := ((h0, .inr (5, [.ref (a1 0), .ref (a2 0), .ref (a3 0), .int 0, .ref (a4 0), .ref q5, .int 0, .ref q6, .null, .null])) :: (((((wC 8 a1 (shP G a1) (firstP (up2 z0 0 10 1)) ++ wC 8 a2 (shP G a2) (firstP (up2 z0 0 10 1))) ++ wC 8 a3 (shP G a3) (firstP (up2 z0 0 10 1))) ++ wC 2 a4 (shB G a4) (up2 z0 0 2 0)) ++ ((q5, .inl (G.2.1 2, 10, .inr (.inr (.inr (.inr (fun i => if i < 10 then some (q5 + 1 + i) else none)))))) :: (List.range 10).map (fun j => (q5 + 1 + j, .inl (G.2.1 0, 3, .inl (fun _ => 0)))))) ++ [(q6, .inl (G.2.1 3, 4, .inr (.inr (.inr (.inr (fun _ => none))))))]))) rfl ?_
  refine b_iconst B0 0 dX5_init_67 rfl ?_
  refine b_istore_n (ls2 := [(1, _), (0, _)]) B0 dX5_init_68 rfl (lt_b rfl) rfl ?_
  refine b_iload_n B0 0 dX5_init_69 rfl rfl ?_
  refine b_iconst B0 4 dX5_init_70 rfl ?_
  refine b_icmp_ge B0 93 dX5_init_71 rfl (fun h => absurd h (by decide)) (fun _ => ?_)
  refine b_aload_n B0 1 dX5_init_74 rfl rfl ?_
  refine b_get (C := RX5) (T := TX5) (N := 10) B0 0 rfl 7 rfl u_ws_X5 (lt_b rfl) u_f_X5_36 rfl rfl dX5_init_75 ?_
  refine b_iload_n B0 0 dX5_init_78 rfl rfl ?_
  refine b_new (ci := 2) (fs := [.int 0, .int 0, .null]) (C := RX2) (T := TX2) (N := 3) B0 u_ws_X2 tyX2 tyX2_ok u_cl_X5_34 u_ia_X2 u_in_X2 rfl (by decide +kernel) (le_b rfl) (le_b rfl) dX5_init_79 (fun q7 => ?_)
  refine b_dup B0 dX5_init_82 rfl ?_
  refine b_callIn B0 (c_X2_init l G) u_c_X2_init B0.zw.2.2.2.2.1 u_im_X2_init u_in_X2 rfl (by decide +kernel) ⟨le_b rfl, le_b rfl, le_b rfl, le_b rfl⟩ (le_b rfl) dX5_init_83 (fun a7 M7 had hM => ?_)
  subst hM
  subst had
  refine BW.eq (ws := ((h0, .inr (5, [.ref (a1 0), .ref (a2 0), .ref (a3 0), .int 0, .ref (a4 0), .ref q5, .int 0, .ref q6, .null, .null])) :: ((((((wC 8 a1 (shP G a1) (firstP (up2 z0 0 10 1)) ++ wC 8 a2 (shP G a2) (firstP (up2 z0 0 10 1))) ++ wC 8 a3 (shP G a3) (firstP (up2 z0 0 10 1))) ++ wC 2 a4 (shB G a4) (up2 z0 0 2 0)) ++ ((q5, .inl (G.2.1 2, 10, .inr (.inr (.inr (.inr (fun i => if i < 10 then some (q5 + 1 + i) else none)))))) :: (List.range 10).map (fun j => (q5 + 1 + j, .inl (G.2.1 0, 3, .inl (fun _ => 0)))))) ++ [(q6, .inl (G.2.1 3, 4, .inr (.inr (.inr (.inr (fun _ => none))))))]) ++ wC 2 a7 (shS G a7) x2_0))) rfl ?_
  refine b_astq (C := RX2) (T := TX2) (N9 := 3) (ci := 2) (t0 := 3) B0 38 39 rfl rfl rfl rfl (vq rfl) dX5_init_86 ?_
  refine BW.eq (ws := ((h0, .inr (5, [.ref (a1 0), .ref (a2 0), .ref (a3 0), .int 0, .ref (a4 0), .ref q5, .int 0, .ref q6, .null, .null])) :: ((((((wC 8 a1 (shP G a1) (firstP (up2 z0 0 10 1)) ++ wC 8 a2 (shP G a2) (firstP (up2 z0 0 10 1))) ++ wC 8 a3 (shP G a3) (firstP (up2 z0 0 10 1))) ++ wC 2 a4 (shB G a4) (up2 z0 0 2 0)) ++ ((q5, .inl (G.2.1 2, 10, .inr (.inr (.inr (.inr (fun i => if i < 10 then some (q5 + 1 + i) else none)))))) :: (List.range 10).map (fun j => (q5 + 1 + j, .inl (G.2.1 0, 3, .inl (fun _ => 0)))))) ++ [(q6, .inl (G.2.1 3, 4, .inr (.inr (.inr (.inr (va_up (fun _ => none) (Int32.toNatClampNeg 0) (some (a7 0))))))))]) ++ wC 2 a7 (shS G a7) x2_0))) rfl ?_
  refine b_iinc (ls2 := [(1, _), (0, _)]) B0 0 1 dX5_init_87 rfl rfl (lt_b rfl) rfl ?_
  refine b_goto B0 69 dX5_init_90 rfl ?_
  refine b_iload_n B0 0 dX5_init_69 rfl rfl ?_
  refine b_iconst B0 4 dX5_init_70 rfl ?_
  refine b_icmp_ge B0 93 dX5_init_71 rfl (fun h => absurd h (by decide)) (fun _ => ?_)
  refine b_aload_n B0 1 dX5_init_74 rfl rfl ?_
  refine b_get (C := RX5) (T := TX5) (N := 10) B0 0 rfl 7 rfl u_ws_X5 (lt_b rfl) u_f_X5_36 rfl rfl dX5_init_75 ?_
  refine b_iload_n B0 0 dX5_init_78 rfl rfl ?_
  refine b_new (ci := 2) (fs := [.int 0, .int 0, .null]) (C := RX2) (T := TX2) (N := 3) B0 u_ws_X2 tyX2 tyX2_ok u_cl_X5_34 u_ia_X2 u_in_X2 rfl (by decide +kernel) (le_b rfl) (le_b rfl) dX5_init_79 (fun q8 => ?_)
  refine b_dup B0 dX5_init_82 rfl ?_
  refine b_callIn B0 (c_X2_init l G) u_c_X2_init B0.zw.2.2.2.2.1 u_im_X2_init u_in_X2 rfl (by decide +kernel) ⟨le_b rfl, le_b rfl, le_b rfl, le_b rfl⟩ (le_b rfl) dX5_init_83 (fun a8 M8 had hM => ?_)
  subst hM
  subst had
  refine BW.eq (ws := ((h0, .inr (5, [.ref (a1 0), .ref (a2 0), .ref (a3 0), .int 0, .ref (a4 0), .ref q5, .int 0, .ref q6, .null, .null])) :: (((((((wC 8 a1 (shP G a1) (firstP (up2 z0 0 10 1)) ++ wC 8 a2 (shP G a2) (firstP (up2 z0 0 10 1))) ++ wC 8 a3 (shP G a3) (firstP (up2 z0 0 10 1))) ++ wC 2 a4 (shB G a4) (up2 z0 0 2 0)) ++ ((q5, .inl (G.2.1 2, 10, .inr (.inr (.inr (.inr (fun i => if i < 10 then some (q5 + 1 + i) else none)))))) :: (List.range 10).map (fun j => (q5 + 1 + j, .inl (G.2.1 0, 3, .inl (fun _ => 0)))))) ++ [(q6, .inl (G.2.1 3, 4, .inr (.inr (.inr (.inr (va_up (fun _ => none) (Int32.toNatClampNeg 0) (some (a7 0))))))))]) ++ wC 2 a7 (shS G a7) x2_0) ++ wC 2 a8 (shS G a8) x2_0))) rfl ?_
  refine b_astq (C := RX2) (T := TX2) (N9 := 3) (ci := 2) (t0 := 3) B0 38 41 rfl rfl rfl rfl (vq rfl) dX5_init_86 ?_
  refine BW.eq (ws := ((h0, .inr (5, [.ref (a1 0), .ref (a2 0), .ref (a3 0), .int 0, .ref (a4 0), .ref q5, .int 0, .ref q6, .null, .null])) :: (((((((wC 8 a1 (shP G a1) (firstP (up2 z0 0 10 1)) ++ wC 8 a2 (shP G a2) (firstP (up2 z0 0 10 1))) ++ wC 8 a3 (shP G a3) (firstP (up2 z0 0 10 1))) ++ wC 2 a4 (shB G a4) (up2 z0 0 2 0)) ++ ((q5, .inl (G.2.1 2, 10, .inr (.inr (.inr (.inr (fun i => if i < 10 then some (q5 + 1 + i) else none)))))) :: (List.range 10).map (fun j => (q5 + 1 + j, .inl (G.2.1 0, 3, .inl (fun _ => 0)))))) ++ [(q6, .inl (G.2.1 3, 4, .inr (.inr (.inr (.inr (va_up (va_up (fun _ => none) (Int32.toNatClampNeg 0) (some (a7 0))) (Int32.toNatClampNeg 1) (some (a8 0))))))))]) ++ wC 2 a7 (shS G a7) x2_0) ++ wC 2 a8 (shS G a8) x2_0))) rfl ?_
  refine b_iinc (ls2 := [(1, _), (0, _)]) B0 0 2 dX5_init_87 rfl rfl (lt_b rfl) rfl ?_
  refine b_goto B0 69 dX5_init_90 rfl ?_
  refine b_iload_n B0 0 dX5_init_69 rfl rfl ?_
  refine b_iconst B0 4 dX5_init_70 rfl ?_
  refine b_icmp_ge B0 93 dX5_init_71 rfl (fun h => absurd h (by decide)) (fun _ => ?_)
  refine b_aload_n B0 1 dX5_init_74 rfl rfl ?_
  refine b_get (C := RX5) (T := TX5) (N := 10) B0 0 rfl 7 rfl u_ws_X5 (lt_b rfl) u_f_X5_36 rfl rfl dX5_init_75 ?_
  refine b_iload_n B0 0 dX5_init_78 rfl rfl ?_
  refine b_new (ci := 2) (fs := [.int 0, .int 0, .null]) (C := RX2) (T := TX2) (N := 3) B0 u_ws_X2 tyX2 tyX2_ok u_cl_X5_34 u_ia_X2 u_in_X2 rfl (by decide +kernel) (le_b rfl) (le_b rfl) dX5_init_79 (fun q9 => ?_)
  refine b_dup B0 dX5_init_82 rfl ?_
  refine b_callIn B0 (c_X2_init l G) u_c_X2_init B0.zw.2.2.2.2.1 u_im_X2_init u_in_X2 rfl (by decide +kernel) ⟨le_b rfl, le_b rfl, le_b rfl, le_b rfl⟩ (le_b rfl) dX5_init_83 (fun a9 M9 had hM => ?_)
  subst hM
  subst had
  refine BW.eq (ws := ((h0, .inr (5, [.ref (a1 0), .ref (a2 0), .ref (a3 0), .int 0, .ref (a4 0), .ref q5, .int 0, .ref q6, .null, .null])) :: ((((((((wC 8 a1 (shP G a1) (firstP (up2 z0 0 10 1)) ++ wC 8 a2 (shP G a2) (firstP (up2 z0 0 10 1))) ++ wC 8 a3 (shP G a3) (firstP (up2 z0 0 10 1))) ++ wC 2 a4 (shB G a4) (up2 z0 0 2 0)) ++ ((q5, .inl (G.2.1 2, 10, .inr (.inr (.inr (.inr (fun i => if i < 10 then some (q5 + 1 + i) else none)))))) :: (List.range 10).map (fun j => (q5 + 1 + j, .inl (G.2.1 0, 3, .inl (fun _ => 0)))))) ++ [(q6, .inl (G.2.1 3, 4, .inr (.inr (.inr (.inr (va_up (va_up (fun _ => none) (Int32.toNatClampNeg 0) (some (a7 0))) (Int32.toNatClampNeg 1) (some (a8 0))))))))]) ++ wC 2 a7 (shS G a7) x2_0) ++ wC 2 a8 (shS G a8) x2_0) ++ wC 2 a9 (shS G a9) x2_0))) rfl ?_
  refine b_astq (C := RX2) (T := TX2) (N9 := 3) (ci := 2) (t0 := 3) B0 38 43 rfl rfl rfl rfl (vq rfl) dX5_init_86 ?_
  refine BW.eq (ws := ((h0, .inr (5, [.ref (a1 0), .ref (a2 0), .ref (a3 0), .int 0, .ref (a4 0), .ref q5, .int 0, .ref q6, .null, .null])) :: ((((((((wC 8 a1 (shP G a1) (firstP (up2 z0 0 10 1)) ++ wC 8 a2 (shP G a2) (firstP (up2 z0 0 10 1))) ++ wC 8 a3 (shP G a3) (firstP (up2 z0 0 10 1))) ++ wC 2 a4 (shB G a4) (up2 z0 0 2 0)) ++ ((q5, .inl (G.2.1 2, 10, .inr (.inr (.inr (.inr (fun i => if i < 10 then some (q5 + 1 + i) else none)))))) :: (List.range 10).map (fun j => (q5 + 1 + j, .inl (G.2.1 0, 3, .inl (fun _ => 0)))))) ++ [(q6, .inl (G.2.1 3, 4, .inr (.inr (.inr (.inr (va_up (va_up (va_up (fun _ => none) (Int32.toNatClampNeg 0) (some (a7 0))) (Int32.toNatClampNeg 1) (some (a8 0))) (Int32.toNatClampNeg 2) (some (a9 0))))))))]) ++ wC 2 a7 (shS G a7) x2_0) ++ wC 2 a8 (shS G a8) x2_0) ++ wC 2 a9 (shS G a9) x2_0))) rfl ?_
  refine b_iinc (ls2 := [(1, _), (0, _)]) B0 0 3 dX5_init_87 rfl rfl (lt_b rfl) rfl ?_
  refine b_goto B0 69 dX5_init_90 rfl ?_
  refine b_iload_n B0 0 dX5_init_69 rfl rfl ?_
  refine b_iconst B0 4 dX5_init_70 rfl ?_
  refine b_icmp_ge B0 93 dX5_init_71 rfl (fun h => absurd h (by decide)) (fun _ => ?_)
  refine b_aload_n B0 1 dX5_init_74 rfl rfl ?_
  refine b_get (C := RX5) (T := TX5) (N := 10) B0 0 rfl 7 rfl u_ws_X5 (lt_b rfl) u_f_X5_36 rfl rfl dX5_init_75 ?_
  refine b_iload_n B0 0 dX5_init_78 rfl rfl ?_
  refine b_new (ci := 2) (fs := [.int 0, .int 0, .null]) (C := RX2) (T := TX2) (N := 3) B0 u_ws_X2 tyX2 tyX2_ok u_cl_X5_34 u_ia_X2 u_in_X2 rfl (by decide +kernel) (le_b rfl) (le_b rfl) dX5_init_79 (fun q10 => ?_)
  refine b_dup B0 dX5_init_82 rfl ?_
  refine b_callIn B0 (c_X2_init l G) u_c_X2_init B0.zw.2.2.2.2.1 u_im_X2_init u_in_X2 rfl (by decide +kernel) ⟨le_b rfl, le_b rfl, le_b rfl, le_b rfl⟩ (le_b rfl) dX5_init_83 (fun a10 M10 had hM => ?_)
  subst hM
  subst had
  refine BW.eq (ws := ((h0, .inr (5, [.ref (a1 0), .ref (a2 0), .ref (a3 0), .int 0, .ref (a4 0), .ref q5, .int 0, .ref q6, .null, .null])) :: (((((((((wC 8 a1 (shP G a1) (firstP (up2 z0 0 10 1)) ++ wC 8 a2 (shP G a2) (firstP (up2 z0 0 10 1))) ++ wC 8 a3 (shP G a3) (firstP (up2 z0 0 10 1))) ++ wC 2 a4 (shB G a4) (up2 z0 0 2 0)) ++ ((q5, .inl (G.2.1 2, 10, .inr (.inr (.inr (.inr (fun i => if i < 10 then some (q5 + 1 + i) else none)))))) :: (List.range 10).map (fun j => (q5 + 1 + j, .inl (G.2.1 0, 3, .inl (fun _ => 0)))))) ++ [(q6, .inl (G.2.1 3, 4, .inr (.inr (.inr (.inr (va_up (va_up (va_up (fun _ => none) (Int32.toNatClampNeg 0) (some (a7 0))) (Int32.toNatClampNeg 1) (some (a8 0))) (Int32.toNatClampNeg 2) (some (a9 0))))))))]) ++ wC 2 a7 (shS G a7) x2_0) ++ wC 2 a8 (shS G a8) x2_0) ++ wC 2 a9 (shS G a9) x2_0) ++ wC 2 a10 (shS G a10) x2_0))) rfl ?_
  refine b_astq (C := RX2) (T := TX2) (N9 := 3) (ci := 2) (t0 := 3) B0 38 45 rfl rfl rfl rfl (vq rfl) dX5_init_86 ?_
  refine BW.eq (ws := ((h0, .inr (5, [.ref (a1 0), .ref (a2 0), .ref (a3 0), .int 0, .ref (a4 0), .ref q5, .int 0, .ref q6, .null, .null])) :: (((((((((wC 8 a1 (shP G a1) (firstP (up2 z0 0 10 1)) ++ wC 8 a2 (shP G a2) (firstP (up2 z0 0 10 1))) ++ wC 8 a3 (shP G a3) (firstP (up2 z0 0 10 1))) ++ wC 2 a4 (shB G a4) (up2 z0 0 2 0)) ++ ((q5, .inl (G.2.1 2, 10, .inr (.inr (.inr (.inr (fun i => if i < 10 then some (q5 + 1 + i) else none)))))) :: (List.range 10).map (fun j => (q5 + 1 + j, .inl (G.2.1 0, 3, .inl (fun _ => 0)))))) ++ [(q6, .inl (G.2.1 3, 4, .inr (.inr (.inr (.inr (va_up (va_up (va_up (va_up (fun _ => none) (Int32.toNatClampNeg 0) (some (a7 0))) (Int32.toNatClampNeg 1) (some (a8 0))) (Int32.toNatClampNeg 2) (some (a9 0))) (Int32.toNatClampNeg 3) (some (a10 0))))))))]) ++ wC 2 a7 (shS G a7) x2_0) ++ wC 2 a8 (shS G a8) x2_0) ++ wC 2 a9 (shS G a9) x2_0) ++ wC 2 a10 (shS G a10) x2_0))) rfl ?_
  refine b_iinc (ls2 := [(1, _), (0, _)]) B0 0 4 dX5_init_87 rfl rfl (lt_b rfl) rfl ?_
  refine b_goto B0 69 dX5_init_90 rfl ?_
  refine b_iload_n B0 0 dX5_init_69 rfl rfl ?_
  refine b_iconst B0 4 dX5_init_70 rfl ?_
  refine b_icmp_ge B0 93 dX5_init_71 rfl (fun _ => ?_) (fun h => absurd (by decide) h)
  refine b_aload_n B0 1 dX5_init_93 rfl rfl ?_
  refine b_iconst B0 4 dX5_init_94 rfl ?_
  refine b_newq B0 4 u_cl_X5_41 B0.zw.2.2.1 rfl (by decide) rfl (le_b rfl) (le_b rfl) (le_b rfl) dX5_init_95 (fun q11 => ?_)
  refine BW.eq (ws := ((h0, .inr (5, [.ref (a1 0), .ref (a2 0), .ref (a3 0), .int 0, .ref (a4 0), .ref q5, .int 0, .ref q6, .null, .null])) :: ((((((((((wC 8 a1 (shP G a1) (firstP (up2 z0 0 10 1)) ++ wC 8 a2 (shP G a2) (firstP (up2 z0 0 10 1))) ++ wC 8 a3 (shP G a3) (firstP (up2 z0 0 10 1))) ++ wC 2 a4 (shB G a4) (up2 z0 0 2 0)) ++ ((q5, .inl (G.2.1 2, 10, .inr (.inr (.inr (.inr (fun i => if i < 10 then some (q5 + 1 + i) else none)))))) :: (List.range 10).map (fun j => (q5 + 1 + j, .inl (G.2.1 0, 3, .inl (fun _ => 0)))))) ++ [(q6, .inl (G.2.1 3, 4, .inr (.inr (.inr (.inr (va_up (va_up (va_up (va_up (fun _ => none) (Int32.toNatClampNeg 0) (some (a7 0))) (Int32.toNatClampNeg 1) (some (a8 0))) (Int32.toNatClampNeg 2) (some (a9 0))) (Int32.toNatClampNeg 3) (some (a10 0))))))))]) ++ wC 2 a7 (shS G a7) x2_0) ++ wC 2 a8 (shS G a8) x2_0) ++ wC 2 a9 (shS G a9) x2_0) ++ wC 2 a10 (shS G a10) x2_0) ++ [(q11, .inl (G.2.1 4, 4, .inr (.inr (.inr (.inr (fun _ => none))))))]))) rfl ?_
  refine b_putF (C := RX5) (T := TX5) (N := 10) B0 0 rfl 8 tyX5 tyX5_ok nmX5 rfl u_ws_X5 (lt_b rfl) u_f_X5_43 rfl rfl hin rfl rfl rfl rfl (lt_b rfl) dX5_init_98 ?_
  refine BW.eq (ws := ((h0, .inr (5, [.ref (a1 0), .ref (a2 0), .ref (a3 0), .int 0, .ref (a4 0), .ref q5, .int 0, .ref q6, .ref q11, .null])) :: ((((((((((wC 8 a1 (shP G a1) (firstP (up2 z0 0 10 1)) ++ wC 8 a2 (shP G a2) (firstP (up2 z0 0 10 1))) ++ wC 8 a3 (shP G a3) (firstP (up2 z0 0 10 1))) ++ wC 2 a4 (shB G a4) (up2 z0 0 2 0)) ++ ((q5, .inl (G.2.1 2, 10, .inr (.inr (.inr (.inr (fun i => if i < 10 then some (q5 + 1 + i) else none)))))) :: (List.range 10).map (fun j => (q5 + 1 + j, .inl (G.2.1 0, 3, .inl (fun _ => 0)))))) ++ [(q6, .inl (G.2.1 3, 4, .inr (.inr (.inr (.inr (va_up (va_up (va_up (va_up (fun _ => none) (Int32.toNatClampNeg 0) (some (a7 0))) (Int32.toNatClampNeg 1) (some (a8 0))) (Int32.toNatClampNeg 2) (some (a9 0))) (Int32.toNatClampNeg 3) (some (a10 0))))))))]) ++ wC 2 a7 (shS G a7) x2_0) ++ wC 2 a8 (shS G a8) x2_0) ++ wC 2 a9 (shS G a9) x2_0) ++ wC 2 a10 (shS G a10) x2_0) ++ [(q11, .inl (G.2.1 4, 4, .inr (.inr (.inr (.inr (fun _ => none))))))]))) rfl ?_
  refine b_iconst B0 0 dX5_init_101 rfl ?_
  refine b_istore_n (ls2 := [(1, _), (0, _)]) B0 dX5_init_102 rfl (lt_b rfl) rfl ?_
  refine b_iload_n B0 0 dX5_init_103 rfl rfl ?_
  refine b_iconst B0 4 dX5_init_104 rfl ?_
  refine b_icmp_ge B0 127 dX5_init_105 rfl (fun h => absurd h (by decide)) (fun _ => ?_)
  refine b_aload_n B0 1 dX5_init_108 rfl rfl ?_
  refine b_get (C := RX5) (T := TX5) (N := 10) B0 0 rfl 8 rfl u_ws_X5 (lt_b rfl) u_f_X5_43 rfl rfl dX5_init_109 ?_
  refine b_iload_n B0 0 dX5_init_112 rfl rfl ?_
  refine b_new (ci := 3) (fs := [.int 0, .int 0, .int 0]) (C := RX3) (T := TX3) (N := 3) B0 u_ws_X3 tyX3 tyX3_ok u_cl_X5_41 u_ia_X3 u_in_X3 rfl (by decide +kernel) (le_b rfl) (le_b rfl) dX5_init_113 (fun q12 => ?_)
  refine b_dup B0 dX5_init_116 rfl ?_
  refine b_callIn B0 (c_X3_init l G) u_c_X3_init B0.zw.2.2.2.2.2.1 u_im_X3_init u_in_X3 rfl (by decide +kernel) ⟨le_b rfl, le_b rfl, le_b rfl, le_b rfl⟩ (le_b rfl) dX5_init_117 (fun a12 M12 had hM => ?_)
  subst hM
  subst had
  refine BW.eq (ws := ((h0, .inr (5, [.ref (a1 0), .ref (a2 0), .ref (a3 0), .int 0, .ref (a4 0), .ref q5, .int 0, .ref q6, .ref q11, .null])) :: (((((((((((wC 8 a1 (shP G a1) (firstP (up2 z0 0 10 1)) ++ wC 8 a2 (shP G a2) (firstP (up2 z0 0 10 1))) ++ wC 8 a3 (shP G a3) (firstP (up2 z0 0 10 1))) ++ wC 2 a4 (shB G a4) (up2 z0 0 2 0)) ++ ((q5, .inl (G.2.1 2, 10, .inr (.inr (.inr (.inr (fun i => if i < 10 then some (q5 + 1 + i) else none)))))) :: (List.range 10).map (fun j => (q5 + 1 + j, .inl (G.2.1 0, 3, .inl (fun _ => 0)))))) ++ [(q6, .inl (G.2.1 3, 4, .inr (.inr (.inr (.inr (va_up (va_up (va_up (va_up (fun _ => none) (Int32.toNatClampNeg 0) (some (a7 0))) (Int32.toNatClampNeg 1) (some (a8 0))) (Int32.toNatClampNeg 2) (some (a9 0))) (Int32.toNatClampNeg 3) (some (a10 0))))))))]) ++ wC 2 a7 (shS G a7) x2_0) ++ wC 2 a8 (shS G a8) x2_0) ++ wC 2 a9 (shS G a9) x2_0) ++ wC 2 a10 (shS G a10) x2_0) ++ [(q11, .inl (G.2.1 4, 4, .inr (.inr (.inr (.inr (fun _ => none))))))]) ++ wC 1 a12 (shH G a12) (up2 z0 0 0 0)))) rfl ?_
  refine b_astq (C := RX3) (T := TX3) (N9 := 3) (ci := 3) (t0 := 4) B0 47 48 rfl rfl rfl rfl (vq rfl) dX5_init_120 ?_
  refine BW.eq (ws := ((h0, .inr (5, [.ref (a1 0), .ref (a2 0), .ref (a3 0), .int 0, .ref (a4 0), .ref q5, .int 0, .ref q6, .ref q11, .null])) :: (((((((((((wC 8 a1 (shP G a1) (firstP (up2 z0 0 10 1)) ++ wC 8 a2 (shP G a2) (firstP (up2 z0 0 10 1))) ++ wC 8 a3 (shP G a3) (firstP (up2 z0 0 10 1))) ++ wC 2 a4 (shB G a4) (up2 z0 0 2 0)) ++ ((q5, .inl (G.2.1 2, 10, .inr (.inr (.inr (.inr (fun i => if i < 10 then some (q5 + 1 + i) else none)))))) :: (List.range 10).map (fun j => (q5 + 1 + j, .inl (G.2.1 0, 3, .inl (fun _ => 0)))))) ++ [(q6, .inl (G.2.1 3, 4, .inr (.inr (.inr (.inr (va_up (va_up (va_up (va_up (fun _ => none) (Int32.toNatClampNeg 0) (some (a7 0))) (Int32.toNatClampNeg 1) (some (a8 0))) (Int32.toNatClampNeg 2) (some (a9 0))) (Int32.toNatClampNeg 3) (some (a10 0))))))))]) ++ wC 2 a7 (shS G a7) x2_0) ++ wC 2 a8 (shS G a8) x2_0) ++ wC 2 a9 (shS G a9) x2_0) ++ wC 2 a10 (shS G a10) x2_0) ++ [(q11, .inl (G.2.1 4, 4, .inr (.inr (.inr (.inr (va_up (fun _ => none) (Int32.toNatClampNeg 0) (some (a12 0))))))))]) ++ wC 1 a12 (shH G a12) (up2 z0 0 0 0)))) rfl ?_
  refine b_iinc (ls2 := [(1, _), (0, _)]) B0 0 1 dX5_init_121 rfl rfl (lt_b rfl) rfl ?_
  refine b_goto B0 103 dX5_init_124 rfl ?_
  refine b_iload_n B0 0 dX5_init_103 rfl rfl ?_
  refine b_iconst B0 4 dX5_init_104 rfl ?_
  refine b_icmp_ge B0 127 dX5_init_105 rfl (fun h => absurd h (by decide)) (fun _ => ?_)
  refine b_aload_n B0 1 dX5_init_108 rfl rfl ?_
  refine b_get (C := RX5) (T := TX5) (N := 10) B0 0 rfl 8 rfl u_ws_X5 (lt_b rfl) u_f_X5_43 rfl rfl dX5_init_109 ?_
  refine b_iload_n B0 0 dX5_init_112 rfl rfl ?_
  refine b_new (ci := 3) (fs := [.int 0, .int 0, .int 0]) (C := RX3) (T := TX3) (N := 3) B0 u_ws_X3 tyX3 tyX3_ok u_cl_X5_41 u_ia_X3 u_in_X3 rfl (by decide +kernel) (le_b rfl) (le_b rfl) dX5_init_113 (fun q13 => ?_)
  refine b_dup B0 dX5_init_116 rfl ?_
  refine b_callIn B0 (c_X3_init l G) u_c_X3_init B0.zw.2.2.2.2.2.1 u_im_X3_init u_in_X3 rfl (by decide +kernel) ⟨le_b rfl, le_b rfl, le_b rfl, le_b rfl⟩ (le_b rfl) dX5_init_117 (fun a13 M13 had hM => ?_)
  subst hM
  subst had
  refine BW.eq (ws := ((h0, .inr (5, [.ref (a1 0), .ref (a2 0), .ref (a3 0), .int 0, .ref (a4 0), .ref q5, .int 0, .ref q6, .ref q11, .null])) :: ((((((((((((wC 8 a1 (shP G a1) (firstP (up2 z0 0 10 1)) ++ wC 8 a2 (shP G a2) (firstP (up2 z0 0 10 1))) ++ wC 8 a3 (shP G a3) (firstP (up2 z0 0 10 1))) ++ wC 2 a4 (shB G a4) (up2 z0 0 2 0)) ++ ((q5, .inl (G.2.1 2, 10, .inr (.inr (.inr (.inr (fun i => if i < 10 then some (q5 + 1 + i) else none)))))) :: (List.range 10).map (fun j => (q5 + 1 + j, .inl (G.2.1 0, 3, .inl (fun _ => 0)))))) ++ [(q6, .inl (G.2.1 3, 4, .inr (.inr (.inr (.inr (va_up (va_up (va_up (va_up (fun _ => none) (Int32.toNatClampNeg 0) (some (a7 0))) (Int32.toNatClampNeg 1) (some (a8 0))) (Int32.toNatClampNeg 2) (some (a9 0))) (Int32.toNatClampNeg 3) (some (a10 0))))))))]) ++ wC 2 a7 (shS G a7) x2_0) ++ wC 2 a8 (shS G a8) x2_0) ++ wC 2 a9 (shS G a9) x2_0) ++ wC 2 a10 (shS G a10) x2_0) ++ [(q11, .inl (G.2.1 4, 4, .inr (.inr (.inr (.inr (va_up (fun _ => none) (Int32.toNatClampNeg 0) (some (a12 0))))))))]) ++ wC 1 a12 (shH G a12) (up2 z0 0 0 0)) ++ wC 1 a13 (shH G a13) (up2 z0 0 0 0)))) rfl ?_
  refine b_astq (C := RX3) (T := TX3) (N9 := 3) (ci := 3) (t0 := 4) B0 47 49 rfl rfl rfl rfl (vq rfl) dX5_init_120 ?_
  refine BW.eq (ws := ((h0, .inr (5, [.ref (a1 0), .ref (a2 0), .ref (a3 0), .int 0, .ref (a4 0), .ref q5, .int 0, .ref q6, .ref q11, .null])) :: ((((((((((((wC 8 a1 (shP G a1) (firstP (up2 z0 0 10 1)) ++ wC 8 a2 (shP G a2) (firstP (up2 z0 0 10 1))) ++ wC 8 a3 (shP G a3) (firstP (up2 z0 0 10 1))) ++ wC 2 a4 (shB G a4) (up2 z0 0 2 0)) ++ ((q5, .inl (G.2.1 2, 10, .inr (.inr (.inr (.inr (fun i => if i < 10 then some (q5 + 1 + i) else none)))))) :: (List.range 10).map (fun j => (q5 + 1 + j, .inl (G.2.1 0, 3, .inl (fun _ => 0)))))) ++ [(q6, .inl (G.2.1 3, 4, .inr (.inr (.inr (.inr (va_up (va_up (va_up (va_up (fun _ => none) (Int32.toNatClampNeg 0) (some (a7 0))) (Int32.toNatClampNeg 1) (some (a8 0))) (Int32.toNatClampNeg 2) (some (a9 0))) (Int32.toNatClampNeg 3) (some (a10 0))))))))]) ++ wC 2 a7 (shS G a7) x2_0) ++ wC 2 a8 (shS G a8) x2_0) ++ wC 2 a9 (shS G a9) x2_0) ++ wC 2 a10 (shS G a10) x2_0) ++ [(q11, .inl (G.2.1 4, 4, .inr (.inr (.inr (.inr (va_up (va_up (fun _ => none) (Int32.toNatClampNeg 0) (some (a12 0))) (Int32.toNatClampNeg 1) (some (a13 0))))))))]) ++ wC 1 a12 (shH G a12) (up2 z0 0 0 0)) ++ wC 1 a13 (shH G a13) (up2 z0 0 0 0)))) rfl ?_
  refine b_iinc (ls2 := [(1, _), (0, _)]) B0 0 2 dX5_init_121 rfl rfl (lt_b rfl) rfl ?_
  refine b_goto B0 103 dX5_init_124 rfl ?_
  refine b_iload_n B0 0 dX5_init_103 rfl rfl ?_
  refine b_iconst B0 4 dX5_init_104 rfl ?_
  refine b_icmp_ge B0 127 dX5_init_105 rfl (fun h => absurd h (by decide)) (fun _ => ?_)
  refine b_aload_n B0 1 dX5_init_108 rfl rfl ?_
  refine b_get (C := RX5) (T := TX5) (N := 10) B0 0 rfl 8 rfl u_ws_X5 (lt_b rfl) u_f_X5_43 rfl rfl dX5_init_109 ?_
  refine b_iload_n B0 0 dX5_init_112 rfl rfl ?_
  refine b_new (ci := 3) (fs := [.int 0, .int 0, .int 0]) (C := RX3) (T := TX3) (N := 3) B0 u_ws_X3 tyX3 tyX3_ok u_cl_X5_41 u_ia_X3 u_in_X3 rfl (by decide +kernel) (le_b rfl) (le_b rfl) dX5_init_113 (fun q14 => ?_)
  refine b_dup B0 dX5_init_116 rfl ?_
  refine b_callIn B0 (c_X3_init l G) u_c_X3_init B0.zw.2.2.2.2.2.1 u_im_X3_init u_in_X3 rfl (by decide +kernel) ⟨le_b rfl, le_b rfl, le_b rfl, le_b rfl⟩ (le_b rfl) dX5_init_117 (fun a14 M14 had hM => ?_)
  subst hM
  subst had
  refine BW.eq (ws := ((h0, .inr (5, [.ref (a1 0), .ref (a2 0), .ref (a3 0), .int 0, .ref (a4 0), .ref q5, .int 0, .ref q6, .ref q11, .null])) :: (((((((((((((wC 8 a1 (shP G a1) (firstP (up2 z0 0 10 1)) ++ wC 8 a2 (shP G a2) (firstP (up2 z0 0 10 1))) ++ wC 8 a3 (shP G a3) (firstP (up2 z0 0 10 1))) ++ wC 2 a4 (shB G a4) (up2 z0 0 2 0)) ++ ((q5, .inl (G.2.1 2, 10, .inr (.inr (.inr (.inr (fun i => if i < 10 then some (q5 + 1 + i) else none)))))) :: (List.range 10).map (fun j => (q5 + 1 + j, .inl (G.2.1 0, 3, .inl (fun _ => 0)))))) ++ [(q6, .inl (G.2.1 3, 4, .inr (.inr (.inr (.inr (va_up (va_up (va_up (va_up (fun _ => none) (Int32.toNatClampNeg 0) (some (a7 0))) (Int32.toNatClampNeg 1) (some (a8 0))) (Int32.toNatClampNeg 2) (some (a9 0))) (Int32.toNatClampNeg 3) (some (a10 0))))))))]) ++ wC 2 a7 (shS G a7) x2_0) ++ wC 2 a8 (shS G a8) x2_0) ++ wC 2 a9 (shS G a9) x2_0) ++ wC 2 a10 (shS G a10) x2_0) ++ [(q11, .inl (G.2.1 4, 4, .inr (.inr (.inr (.inr (va_up (va_up (fun _ => none) (Int32.toNatClampNeg 0) (some (a12 0))) (Int32.toNatClampNeg 1) (some (a13 0))))))))]) ++ wC 1 a12 (shH G a12) (up2 z0 0 0 0)) ++ wC 1 a13 (shH G a13) (up2 z0 0 0 0)) ++ wC 1 a14 (shH G a14) (up2 z0 0 0 0)))) rfl ?_
  refine b_astq (C := RX3) (T := TX3) (N9 := 3) (ci := 3) (t0 := 4) B0 47 50 rfl rfl rfl rfl (vq rfl) dX5_init_120 ?_
  refine BW.eq (ws := ((h0, .inr (5, [.ref (a1 0), .ref (a2 0), .ref (a3 0), .int 0, .ref (a4 0), .ref q5, .int 0, .ref q6, .ref q11, .null])) :: (((((((((((((wC 8 a1 (shP G a1) (firstP (up2 z0 0 10 1)) ++ wC 8 a2 (shP G a2) (firstP (up2 z0 0 10 1))) ++ wC 8 a3 (shP G a3) (firstP (up2 z0 0 10 1))) ++ wC 2 a4 (shB G a4) (up2 z0 0 2 0)) ++ ((q5, .inl (G.2.1 2, 10, .inr (.inr (.inr (.inr (fun i => if i < 10 then some (q5 + 1 + i) else none)))))) :: (List.range 10).map (fun j => (q5 + 1 + j, .inl (G.2.1 0, 3, .inl (fun _ => 0)))))) ++ [(q6, .inl (G.2.1 3, 4, .inr (.inr (.inr (.inr (va_up (va_up (va_up (va_up (fun _ => none) (Int32.toNatClampNeg 0) (some (a7 0))) (Int32.toNatClampNeg 1) (some (a8 0))) (Int32.toNatClampNeg 2) (some (a9 0))) (Int32.toNatClampNeg 3) (some (a10 0))))))))]) ++ wC 2 a7 (shS G a7) x2_0) ++ wC 2 a8 (shS G a8) x2_0) ++ wC 2 a9 (shS G a9) x2_0) ++ wC 2 a10 (shS G a10) x2_0) ++ [(q11, .inl (G.2.1 4, 4, .inr (.inr (.inr (.inr (va_up (va_up (va_up (fun _ => none) (Int32.toNatClampNeg 0) (some (a12 0))) (Int32.toNatClampNeg 1) (some (a13 0))) (Int32.toNatClampNeg 2) (some (a14 0))))))))]) ++ wC 1 a12 (shH G a12) (up2 z0 0 0 0)) ++ wC 1 a13 (shH G a13) (up2 z0 0 0 0)) ++ wC 1 a14 (shH G a14) (up2 z0 0 0 0)))) rfl ?_
  refine b_iinc (ls2 := [(1, _), (0, _)]) B0 0 3 dX5_init_121 rfl rfl (lt_b rfl) rfl ?_
  refine b_goto B0 103 dX5_init_124 rfl ?_
  refine b_iload_n B0 0 dX5_init_103 rfl rfl ?_
  refine b_iconst B0 4 dX5_init_104 rfl ?_
  refine b_icmp_ge B0 127 dX5_init_105 rfl (fun h => absurd h (by decide)) (fun _ => ?_)
  refine b_aload_n B0 1 dX5_init_108 rfl rfl ?_
  refine b_get (C := RX5) (T := TX5) (N := 10) B0 0 rfl 8 rfl u_ws_X5 (lt_b rfl) u_f_X5_43 rfl rfl dX5_init_109 ?_
  refine b_iload_n B0 0 dX5_init_112 rfl rfl ?_
  refine b_new (ci := 3) (fs := [.int 0, .int 0, .int 0]) (C := RX3) (T := TX3) (N := 3) B0 u_ws_X3 tyX3 tyX3_ok u_cl_X5_41 u_ia_X3 u_in_X3 rfl (by decide +kernel) (le_b rfl) (le_b rfl) dX5_init_113 (fun q15 => ?_)
  refine b_dup B0 dX5_init_116 rfl ?_
  refine b_callIn B0 (c_X3_init l G) u_c_X3_init B0.zw.2.2.2.2.2.1 u_im_X3_init u_in_X3 rfl (by decide +kernel) ⟨le_b rfl, le_b rfl, le_b rfl, le_b rfl⟩ (le_b rfl) dX5_init_117 (fun a15 M15 had hM => ?_)
  subst hM
  subst had
  refine BW.eq (ws := ((h0, .inr (5, [.ref (a1 0), .ref (a2 0), .ref (a3 0), .int 0, .ref (a4 0), .ref q5, .int 0, .ref q6, .ref q11, .null])) :: ((((((((((((((wC 8 a1 (shP G a1) (firstP (up2 z0 0 10 1)) ++ wC 8 a2 (shP G a2) (firstP (up2 z0 0 10 1))) ++ wC 8 a3 (shP G a3) (firstP (up2 z0 0 10 1))) ++ wC 2 a4 (shB G a4) (up2 z0 0 2 0)) ++ ((q5, .inl (G.2.1 2, 10, .inr (.inr (.inr (.inr (fun i => if i < 10 then some (q5 + 1 + i) else none)))))) :: (List.range 10).map (fun j => (q5 + 1 + j, .inl (G.2.1 0, 3, .inl (fun _ => 0)))))) ++ [(q6, .inl (G.2.1 3, 4, .inr (.inr (.inr (.inr (va_up (va_up (va_up (va_up (fun _ => none) (Int32.toNatClampNeg 0) (some (a7 0))) (Int32.toNatClampNeg 1) (some (a8 0))) (Int32.toNatClampNeg 2) (some (a9 0))) (Int32.toNatClampNeg 3) (some (a10 0))))))))]) ++ wC 2 a7 (shS G a7) x2_0) ++ wC 2 a8 (shS G a8) x2_0) ++ wC 2 a9 (shS G a9) x2_0) ++ wC 2 a10 (shS G a10) x2_0) ++ [(q11, .inl (G.2.1 4, 4, .inr (.inr (.inr (.inr (va_up (va_up (va_up (fun _ => none) (Int32.toNatClampNeg 0) (some (a12 0))) (Int32.toNatClampNeg 1) (some (a13 0))) (Int32.toNatClampNeg 2) (some (a14 0))))))))]) ++ wC 1 a12 (shH G a12) (up2 z0 0 0 0)) ++ wC 1 a13 (shH G a13) (up2 z0 0 0 0)) ++ wC 1 a14 (shH G a14) (up2 z0 0 0 0)) ++ wC 1 a15 (shH G a15) (up2 z0 0 0 0)))) rfl ?_
  refine b_astq (C := RX3) (T := TX3) (N9 := 3) (ci := 3) (t0 := 4) B0 47 51 rfl rfl rfl rfl (vq rfl) dX5_init_120 ?_
  refine BW.eq (ws := ((h0, .inr (5, [.ref (a1 0), .ref (a2 0), .ref (a3 0), .int 0, .ref (a4 0), .ref q5, .int 0, .ref q6, .ref q11, .null])) :: ((((((((((((((wC 8 a1 (shP G a1) (firstP (up2 z0 0 10 1)) ++ wC 8 a2 (shP G a2) (firstP (up2 z0 0 10 1))) ++ wC 8 a3 (shP G a3) (firstP (up2 z0 0 10 1))) ++ wC 2 a4 (shB G a4) (up2 z0 0 2 0)) ++ ((q5, .inl (G.2.1 2, 10, .inr (.inr (.inr (.inr (fun i => if i < 10 then some (q5 + 1 + i) else none)))))) :: (List.range 10).map (fun j => (q5 + 1 + j, .inl (G.2.1 0, 3, .inl (fun _ => 0)))))) ++ [(q6, .inl (G.2.1 3, 4, .inr (.inr (.inr (.inr (va_up (va_up (va_up (va_up (fun _ => none) (Int32.toNatClampNeg 0) (some (a7 0))) (Int32.toNatClampNeg 1) (some (a8 0))) (Int32.toNatClampNeg 2) (some (a9 0))) (Int32.toNatClampNeg 3) (some (a10 0))))))))]) ++ wC 2 a7 (shS G a7) x2_0) ++ wC 2 a8 (shS G a8) x2_0) ++ wC 2 a9 (shS G a9) x2_0) ++ wC 2 a10 (shS G a10) x2_0) ++ [(q11, .inl (G.2.1 4, 4, .inr (.inr (.inr (.inr (va_up (va_up (va_up (va_up (fun _ => none) (Int32.toNatClampNeg 0) (some (a12 0))) (Int32.toNatClampNeg 1) (some (a13 0))) (Int32.toNatClampNeg 2) (some (a14 0))) (Int32.toNatClampNeg 3) (some (a15 0))))))))]) ++ wC 1 a12 (shH G a12) (up2 z0 0 0 0)) ++ wC 1 a13 (shH G a13) (up2 z0 0 0 0)) ++ wC 1 a14 (shH G a14) (up2 z0 0 0 0)) ++ wC 1 a15 (shH G a15) (up2 z0 0 0 0)))) rfl ?_
  refine b_iinc (ls2 := [(1, _), (0, _)]) B0 0 4 dX5_init_121 rfl rfl (lt_b rfl) rfl ?_
  refine b_goto B0 103 dX5_init_124 rfl ?_
  refine b_iload_n B0 0 dX5_init_103 rfl rfl ?_
  refine b_iconst B0 4 dX5_init_104 rfl ?_
  refine b_icmp_ge B0 127 dX5_init_105 rfl (fun _ => ?_) (fun h => absurd (by decide) h)
  refine b_aload_n B0 1 dX5_init_127 rfl rfl ?_
  refine b_new (ci := 0) (fs := [.null, .int 0, .int 0, .int 0, .int 0, .int 0]) (C := RX0) (T := TX0) (N := 6) B0 u_ws_X0 tyX0 tyX0_ok u_cl_X5_48 u_ia_X0 u_in_X0 rfl (by decide +kernel) (le_b rfl) (le_b rfl) dX5_init_128 (fun q16 => ?_)
  refine b_dup B0 dX5_init_131 rfl ?_
  refine b_callIn B0 (c_X0_init l G) u_c_X0_init B0.zw.2.2.2.2.2.2 u_im_X0_init u_in_X0 rfl (by decide +kernel) ⟨le_b rfl, le_b rfl, le_b rfl, le_b rfl⟩ (le_b rfl) dX5_init_132 (fun a16 M16 had hM => ?_)
  subst hM
  subst had
  refine BW.eq (ws := ((h0, .inr (5, [.ref (a1 0), .ref (a2 0), .ref (a3 0), .int 0, .ref (a4 0), .ref q5, .int 0, .ref q6, .ref q11, .null])) :: (((((((((((((((wC 8 a1 (shP G a1) (firstP (up2 z0 0 10 1)) ++ wC 8 a2 (shP G a2) (firstP (up2 z0 0 10 1))) ++ wC 8 a3 (shP G a3) (firstP (up2 z0 0 10 1))) ++ wC 2 a4 (shB G a4) (up2 z0 0 2 0)) ++ ((q5, .inl (G.2.1 2, 10, .inr (.inr (.inr (.inr (fun i => if i < 10 then some (q5 + 1 + i) else none)))))) :: (List.range 10).map (fun j => (q5 + 1 + j, .inl (G.2.1 0, 3, .inl (fun _ => 0)))))) ++ [(q6, .inl (G.2.1 3, 4, .inr (.inr (.inr (.inr (va_up (va_up (va_up (va_up (fun _ => none) (Int32.toNatClampNeg 0) (some (a7 0))) (Int32.toNatClampNeg 1) (some (a8 0))) (Int32.toNatClampNeg 2) (some (a9 0))) (Int32.toNatClampNeg 3) (some (a10 0))))))))]) ++ wC 2 a7 (shS G a7) x2_0) ++ wC 2 a8 (shS G a8) x2_0) ++ wC 2 a9 (shS G a9) x2_0) ++ wC 2 a10 (shS G a10) x2_0) ++ [(q11, .inl (G.2.1 4, 4, .inr (.inr (.inr (.inr (va_up (va_up (va_up (va_up (fun _ => none) (Int32.toNatClampNeg 0) (some (a12 0))) (Int32.toNatClampNeg 1) (some (a13 0))) (Int32.toNatClampNeg 2) (some (a14 0))) (Int32.toNatClampNeg 3) (some (a15 0))))))))]) ++ wC 1 a12 (shH G a12) (up2 z0 0 0 0)) ++ wC 1 a13 (shH G a13) (up2 z0 0 0 0)) ++ wC 1 a14 (shH G a14) (up2 z0 0 0 0)) ++ wC 1 a15 (shH G a15) (up2 z0 0 0 0)) ++ wC 2 a16 (shD G a16) z0))) rfl ?_
  refine b_putF (C := RX5) (T := TX5) (N := 10) B0 0 rfl 9 tyX5 tyX5_ok nmX5 rfl u_ws_X5 (lt_b rfl) u_f_X5_51 rfl rfl hin rfl rfl rfl rfl (lt_b rfl) dX5_init_135 ?_
  refine BW.eq (ws := ((h0, .inr (5, [.ref (a1 0), .ref (a2 0), .ref (a3 0), .int 0, .ref (a4 0), .ref q5, .int 0, .ref q6, .ref q11, .ref (a16 0)])) :: (((((((((((((((wC 8 a1 (shP G a1) (firstP (up2 z0 0 10 1)) ++ wC 8 a2 (shP G a2) (firstP (up2 z0 0 10 1))) ++ wC 8 a3 (shP G a3) (firstP (up2 z0 0 10 1))) ++ wC 2 a4 (shB G a4) (up2 z0 0 2 0)) ++ ((q5, .inl (G.2.1 2, 10, .inr (.inr (.inr (.inr (fun i => if i < 10 then some (q5 + 1 + i) else none)))))) :: (List.range 10).map (fun j => (q5 + 1 + j, .inl (G.2.1 0, 3, .inl (fun _ => 0)))))) ++ [(q6, .inl (G.2.1 3, 4, .inr (.inr (.inr (.inr (va_up (va_up (va_up (va_up (fun _ => none) (Int32.toNatClampNeg 0) (some (a7 0))) (Int32.toNatClampNeg 1) (some (a8 0))) (Int32.toNatClampNeg 2) (some (a9 0))) (Int32.toNatClampNeg 3) (some (a10 0))))))))]) ++ wC 2 a7 (shS G a7) x2_0) ++ wC 2 a8 (shS G a8) x2_0) ++ wC 2 a9 (shS G a9) x2_0) ++ wC 2 a10 (shS G a10) x2_0) ++ [(q11, .inl (G.2.1 4, 4, .inr (.inr (.inr (.inr (va_up (va_up (va_up (va_up (fun _ => none) (Int32.toNatClampNeg 0) (some (a12 0))) (Int32.toNatClampNeg 1) (some (a13 0))) (Int32.toNatClampNeg 2) (some (a14 0))) (Int32.toNatClampNeg 3) (some (a15 0))))))))]) ++ wC 1 a12 (shH G a12) (up2 z0 0 0 0)) ++ wC 1 a13 (shH G a13) (up2 z0 0 0 0)) ++ wC 1 a14 (shH G a14) (up2 z0 0 0 0)) ++ wC 1 a15 (shH G a15) (up2 z0 0 0 0)) ++ wC 2 a16 (shD G a16) z0))) rfl ?_
  have f1 := up10_ (q := q5) (f := fun i => adL [h0, a1 0, a1 1, a1 2, a1 3, a1 4, a1 5, a1 6, a1 7, a2 0, a2 1, a2 2, a2 3, a2 4, a2 5, a2 6, a2 7, a3 0, a3 1, a3 2, a3 3, a3 4, a3 5, a3 6, a3 7, a4 0, a4 1, q5, q5 + 1 + 0, q5 + 1 + 1, q5 + 1 + 2, q5 + 1 + 3, q5 + 1 + 4, q5 + 1 + 5, q5 + 1 + 6, q5 + 1 + 7, q5 + 1 + 8, q5 + 1 + 9, q6, a7 0, a7 1, a8 0, a8 1, a9 0, a9 1, a10 0, a10 1, q11, a12 0, a13 0, a14 0, a15 0, a16 0, a16 1] (28 + i)) (fun i hi => by
    match i, hi with
    | 0, _ => rfl
    | 1, _ => rfl
    | 2, _ => rfl
    | 3, _ => rfl
    | 4, _ => rfl
    | 5, _ => rfl
    | 6, _ => rfl
    | 7, _ => rfl
    | 8, _ => rfl
    | 9, _ => rfl)
  have f2 := up4_ (f := fun i => adL [h0, a1 0, a1 1, a1 2, a1 3, a1 4, a1 5, a1 6, a1 7, a2 0, a2 1, a2 2, a2 3, a2 4, a2 5, a2 6, a2 7, a3 0, a3 1, a3 2, a3 3, a3 4, a3 5, a3 6, a3 7, a4 0, a4 1, q5, q5 + 1 + 0, q5 + 1 + 1, q5 + 1 + 2, q5 + 1 + 3, q5 + 1 + 4, q5 + 1 + 5, q5 + 1 + 6, q5 + 1 + 7, q5 + 1 + 8, q5 + 1 + 9, q6, a7 0, a7 1, a8 0, a8 1, a9 0, a9 1, a10 0, a10 1, q11, a12 0, a13 0, a14 0, a15 0, a16 0, a16 1] (39 + 2 * i)) (a := a7 0) (b := a8 0) (c := a9 0) (d := a10 0) rfl rfl rfl rfl
  have f3 := up4_ (f := fun i => adL [h0, a1 0, a1 1, a1 2, a1 3, a1 4, a1 5, a1 6, a1 7, a2 0, a2 1, a2 2, a2 3, a2 4, a2 5, a2 6, a2 7, a3 0, a3 1, a3 2, a3 3, a3 4, a3 5, a3 6, a3 7, a4 0, a4 1, q5, q5 + 1 + 0, q5 + 1 + 1, q5 + 1 + 2, q5 + 1 + 3, q5 + 1 + 4, q5 + 1 + 5, q5 + 1 + 6, q5 + 1 + 7, q5 + 1 + 8, q5 + 1 + 9, q6, a7 0, a7 1, a8 0, a8 1, a9 0, a9 1, a10 0, a10 1, q11, a12 0, a13 0, a14 0, a15 0, a16 0, a16 1] (48 + i)) (a := a12 0) (b := a13 0) (c := a14 0) (d := a15 0) rfl rfl rfl rfl
  refine BW.eq (ws := ((h0, .inr (5, [.ref (a1 0), .ref (a2 0), .ref (a3 0), .int 0, .ref (a4 0), .ref q5, .int 0, .ref q6, .ref q11, .ref (a16 0)])) :: (((((((((((((((wC 8 a1 (shP G a1) (firstP (up2 z0 0 10 1)) ++ wC 8 a2 (shP G a2) (firstP (up2 z0 0 10 1))) ++ wC 8 a3 (shP G a3) (firstP (up2 z0 0 10 1))) ++ wC 2 a4 (shB G a4) (up2 z0 0 2 0)) ++ ((q5, .inl (G.2.1 2, 10, .inr (.inr (.inr (.inr (fun i => if i < 10 then some (adL [h0, a1 0, a1 1, a1 2, a1 3, a1 4, a1 5, a1 6, a1 7, a2 0, a2 1, a2 2, a2 3, a2 4, a2 5, a2 6, a2 7, a3 0, a3 1, a3 2, a3 3, a3 4, a3 5, a3 6, a3 7, a4 0, a4 1, q5, q5 + 1 + 0, q5 + 1 + 1, q5 + 1 + 2, q5 + 1 + 3, q5 + 1 + 4, q5 + 1 + 5, q5 + 1 + 6, q5 + 1 + 7, q5 + 1 + 8, q5 + 1 + 9, q6, a7 0, a7 1, a8 0, a8 1, a9 0, a9 1, a10 0, a10 1, q11, a12 0, a13 0, a14 0, a15 0, a16 0, a16 1] (28 + i)) else none)))))) :: (List.range 10).map (fun j => (q5 + 1 + j, .inl (G.2.1 0, 3, .inl (fun _ => 0)))))) ++ [(q6, .inl (G.2.1 3, 4, .inr (.inr (.inr (.inr (fun i => if i < 4 then some (adL [h0, a1 0, a1 1, a1 2, a1 3, a1 4, a1 5, a1 6, a1 7, a2 0, a2 1, a2 2, a2 3, a2 4, a2 5, a2 6, a2 7, a3 0, a3 1, a3 2, a3 3, a3 4, a3 5, a3 6, a3 7, a4 0, a4 1, q5, q5 + 1 + 0, q5 + 1 + 1, q5 + 1 + 2, q5 + 1 + 3, q5 + 1 + 4, q5 + 1 + 5, q5 + 1 + 6, q5 + 1 + 7, q5 + 1 + 8, q5 + 1 + 9, q6, a7 0, a7 1, a8 0, a8 1, a9 0, a9 1, a10 0, a10 1, q11, a12 0, a13 0, a14 0, a15 0, a16 0, a16 1] (39 + 2 * i)) else none))))))]) ++ wC 2 a7 (shS G a7) x2_0) ++ wC 2 a8 (shS G a8) x2_0) ++ wC 2 a9 (shS G a9) x2_0) ++ wC 2 a10 (shS G a10) x2_0) ++ [(q11, .inl (G.2.1 4, 4, .inr (.inr (.inr (.inr (fun i => if i < 4 then some (adL [h0, a1 0, a1 1, a1 2, a1 3, a1 4, a1 5, a1 6, a1 7, a2 0, a2 1, a2 2, a2 3, a2 4, a2 5, a2 6, a2 7, a3 0, a3 1, a3 2, a3 3, a3 4, a3 5, a3 6, a3 7, a4 0, a4 1, q5, q5 + 1 + 0, q5 + 1 + 1, q5 + 1 + 2, q5 + 1 + 3, q5 + 1 + 4, q5 + 1 + 5, q5 + 1 + 6, q5 + 1 + 7, q5 + 1 + 8, q5 + 1 + 9, q6, a7 0, a7 1, a8 0, a8 1, a9 0, a9 1, a10 0, a10 1, q11, a12 0, a13 0, a14 0, a15 0, a16 0, a16 1] (48 + i)) else none))))))]) ++ wC 1 a12 (shH G a12) (up2 z0 0 0 0)) ++ wC 1 a13 (shH G a13) (up2 z0 0 0 0)) ++ wC 1 a14 (shH G a14) (up2 z0 0 0 0)) ++ wC 1 a15 (shH G a15) (up2 z0 0 0 0)) ++ wC 2 a16 (shD G a16) z0))) (by rw [f1, f2, f3]) ?_
  refine BW.aw (N := 54) (ad := adL [h0, a1 0, a1 1, a1 2, a1 3, a1 4, a1 5, a1 6, a1 7, a2 0, a2 1, a2 2, a2 3, a2 4, a2 5, a2 6, a2 7, a3 0, a3 1, a3 2, a3 3, a3 4, a3 5, a3 6, a3 7, a4 0, a4 1, q5, q5 + 1 + 0, q5 + 1 + 1, q5 + 1 + 2, q5 + 1 + 3, q5 + 1 + 4, q5 + 1 + 5, q5 + 1 + 6, q5 + 1 + 7, q5 + 1 + 8, q5 + 1 + 9, q6, a7 0, a7 1, a8 0, a8 1, a9 0, a9 1, a10 0, a10 1, q11, a12 0, a13 0, a14 0, a15 0, a16 0, a16 1]) (sh := shX G (adL [h0, a1 0, a1 1, a1 2, a1 3, a1 4, a1 5, a1 6, a1 7, a2 0, a2 1, a2 2, a2 3, a2 4, a2 5, a2 6, a2 7, a3 0, a3 1, a3 2, a3 3, a3 4, a3 5, a3 6, a3 7, a4 0, a4 1, q5, q5 + 1 + 0, q5 + 1 + 1, q5 + 1 + 2, q5 + 1 + 3, q5 + 1 + 4, q5 + 1 + 5, q5 + 1 + 6, q5 + 1 + 7, q5 + 1 + 8, q5 + 1 + 9, q6, a7 0, a7 1, a8 0, a8 1, a9 0, a9 1, a10 0, a10 1, q11, a12 0, a13 0, a14 0, a15 0, a16 0, a16 1])) (M := (mkX (fun _ => 0) p1_0 p1_0 p1_0 (up2 z0 0 2 0) z0 s1_0 h1_0 z0)) B0 rfl (fun C0 => ?_)
  exact a_bret C0 hr dX5_init_138 rfl rfl rfl
