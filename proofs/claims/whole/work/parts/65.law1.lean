
theorem INV.prove {mb : Nat} {O : RW} {N K B R S H Z : WM} {OM SM : RW} {XM : WM} {x y : Int32} {P : WM} {O2 S2 : RW} {X2 R9 : WM} (i : INV mb O N K B R S H Z OM SM XM) (hS : EqS SM S2) (hX : EqX6 XM X2) (hR : RowR (X2 6) (if (isTl P x ∧ (1 ≤ y ∧ y ≤ 10)) then R9 else R)) (hO : O2 = if (isTl P x ∧ (1 ≤ y ∧ y ≤ 10)) then upS OM 13 y else OM) : INV (mb + 61) (if (isTl P x ∧ (1 ≤ y ∧ y ≤ 10)) then (fun j => if j = 6 then y else O j) else O) N K B (if (isTl P x ∧ (1 ≤ y ∧ y ≤ 10)) then R9 else R) S H Z O2 S2 X2 := by
  obtain ⟨-, -, -, -, ⟨cn, c6, c10, e13, -⟩, -⟩ := id i
  by_cases c : isTl P x ∧ (1 ≤ y ∧ y ≤ 10)
  · rw [if_pos c] at hR hO ⊢
    rw [if_pos c]
    subst hO
    have hy := in_of (n := 10) (by decide) ⟨Int32.le_trans (by decide) c.2.1, c.2.2⟩
    exact i.rows rfl (show (if 6 = 6 then y else O 6) = nI (ix y) from (IX.v hy).eq (by decide)) (by have := vp_lt hy; omega) (fun j hj => up_ne hj) rfl hX hS hR
  · rw [if_neg c] at hR hO ⊢
    rw [if_neg c]
    subst hO
    exact i.rows rfl c6 c10 (fun _ _ => rfl) e13 hX hS hR

section LC
variable {p : Program} {l : Launch} {e : Env} {s : State} {m : MethodId} {args : Array Value} {below : List Frame} {meth : Method} {c : Code} {G : GE} {A : Nat → Prop} {ad : Nat → Nat} {Q : State → Prop} {b L : Nat} {xs : Nat → Int32} {i mb : Nat} {xi : Int32} {O : RW} {N K T B R S H Z : WM} {OM SM : RW} {XM : WM}
set_option maxRecDepth 100000 in
set_option maxHeartbeats 4000000 in
theorem lc_0 (C0 : Cx p s m args meth c G A 68 ad cL_law RL 4) (hX : va_X b L xs s s.heap) (hbl : b < s.heap.size) (hbA : ¬ A b) (hxi : xi = nI i) (hi : i + 5 ≤ L) (hL : L ≤ 2560) (hmb : mb ≤ 61 * 600) (inv : INV mb O N K B R S H Z OM SM XM) (kk : ∀ (O : RW) (N K T B R S H Z : WM) (OM SM : RW) (XM : WM), INV (mb + 61) O N K B R S H Z OM SM XM → AW p l e room_1 s m args below meth c G A 68 ad (shL G ad) 4 600000 7302250 Q 1742 [(3, .int xi), (0, .ref b), (1, .ref (ad 0)), (2, .ref (ad 54))] [] (mkL (mkX O N K T B R S H Z) (mkM OM SM XM))) : AW p l e room_1 s m args below meth c G A 68 ad (shL G ad) 4 600000 7302250 Q 232 [(3, .int xi), (0, .ref b), (1, .ref (ad 0)), (2, .ref (ad 54))] [] (mkL (mkX O N K T B R S H Z) (mkM OM SM XM)) := by
  obtain ⟨⟨nT, mm, rp, hmm⟩, i4, iK, ⟨bn, tr⟩, ⟨cn, c6, c10, e13, rR⟩, rs, rh, dr⟩ := id inv
  have hm : mm + 61 < 2 ^ 31 := by omega
  have hx0 : IX xi (i + 0) L := IX.eqn hxi (by omega) (by omega)
  have hx1 : IX (xi + 1) (i + 1) L := IX.eqn (by rw [hxi, show (1 : Int32) = nI 1 from rfl, nI_add]) (by omega) (by omega)
  have hx2 : IX (xi + 2) (i + 2) L := IX.eqn (by rw [hxi, show (2 : Int32) = nI 2 from rfl, nI_add]) (by omega) (by omega)
  have hx3 : IX (xi + 3) (i + 3) L := IX.eqn (by rw [hxi, show (3 : Int32) = nI 3 from rfl, nI_add]) (by omega) (by omega)
  have hx4 : IX (xi + 4) (i + 4) L := IX.eqn (by rw [hxi, show (4 : Int32) = nI 4 from rfl, nI_add]) (by omega) (by omega)
  refine a_aload_n C0 2 dL_law_232 rfl rfl ?_
  refine a_aload_n C0 1 dL_law_233 rfl rfl ?_
  refine a_iload_n C0 0 dL_law_234 rfl rfl ?_
  refine a_iconst C0 1 dL_law_235 rfl ?_
  refine a_iadd C0 dL_law_236 ?_
  refine a_sld C0 hX hbl hbA (i + 1) hx1.1 hx1.2 dL_law_237 ?_
  refine a_i2l C0 dL_law_238 ?_
  refine a_bipush C0 32 dL_law_239 rfl ?_
  refine a_lshl C0 dL_law_241 ?_
  refine a_aload_n C0 1 dL_law_242 rfl rfl ?_
  refine a_iload_n C0 0 dL_law_243 rfl rfl ?_
  refine a_iconst C0 2 dL_law_244 rfl ?_
  refine a_iadd C0 dL_law_245 ?_
  refine a_sld C0 hX hbl hbA (i + 2) hx2.1 hx2.2 dL_law_246 ?_
  refine a_i2l C0 dL_law_247 ?_
  refine a_ldc2 C0 dL_law_248 u_k_L_13 ?_
  refine a_land C0 dL_law_251 ?_
  refine a_lor C0 dL_law_252 ?_
  refine a_aload_n C0 1 dL_law_253 rfl rfl ?_
  refine a_iload_n C0 0 dL_law_254 rfl rfl ?_
  refine a_iconst C0 3 dL_law_255 rfl ?_
  refine a_iadd C0 dL_law_256 ?_
  refine a_sld C0 hX hbl hbA (i + 3) hx3.1 hx3.2 dL_law_257 ?_
  refine a_callV _ 2 C0 em_LX (c_X5_feed l G tr.1 tr.2.2.1 rfl (ad := ad)) u_c_X5_feed u_m_L_15 u_im_X5_feed u_se_X5_feed u_in_X5 hy_X5_feed rfl (lt_b rfl) rfl (hRk rfl) rfl rfl (le_b rfl) dL_law_258 (k_de ?_)
  refine a_aload_n C0 3 dL_law_261 rfl rfl ?_
  refine a_aload_n C0 1 dL_law_262 rfl rfl ?_
  refine a_iload_n C0 0 dL_law_263 rfl rfl ?_
  refine a_iconst C0 1 dL_law_264 rfl ?_
  refine a_iadd C0 dL_law_265 ?_
  refine a_sld C0 hX hbl hbA (i + 1) hx1.1 hx1.2 dL_law_266 ?_
  refine a_i2l C0 dL_law_267 ?_
  refine a_bipush C0 32 dL_law_268 rfl ?_
  refine a_lshl C0 dL_law_270 ?_
  refine a_aload_n C0 1 dL_law_271 rfl rfl ?_
  refine a_iload_n C0 0 dL_law_272 rfl rfl ?_
  refine a_iconst C0 2 dL_law_273 rfl ?_
  refine a_iadd C0 dL_law_274 ?_
  refine a_sld C0 hX hbl hbA (i + 2) hx2.1 hx2.2 dL_law_275 ?_
  refine a_i2l C0 dL_law_276 ?_
  refine a_ldc2 C0 dL_law_277 u_k_L_13 ?_
  refine a_land C0 dL_law_280 ?_
  refine a_lor C0 dL_law_281 ?_
  refine a_aload_n C0 1 dL_law_282 rfl rfl ?_
  refine a_iload_n C0 0 dL_law_283 rfl rfl ?_
  refine a_iconst C0 3 dL_law_284 rfl ?_
  refine a_iadd C0 dL_law_285 ?_
  refine a_sld C0 hX hbl hbA (i + 3) hx3.1 hx3.2 dL_law_286 ?_
  refine a_callV _ 2 C0 em_LM (c_X6_feed l G tr rfl (ad := fun k => ad (54 + k))) u_c_X6_feed u_m_L_19 u_im_X6_feed u_se_X6_feed u_in_X6 hy_X6_feed rfl (lt_b rfl) rfl (hRk rfl) rfl rfl (le_b rfl) dL_law_287 (k_i fun r287 u287 q287 => ?_)
  obtain ⟨rfl, O2, X2, rfl, hO2, hX2, n2, hr2⟩ := q287
  refine a_icmp_eq C0 1742 dL_law_290 rfl (fun h290 => ?_) (fun h290 => ?_)
  · exact kk _ _ _ _ _ _ _ _ _ _ _ _ (inv.feed hO2 hX2 hr2)
  · exact (h290 rfl).elim
set_option maxRecDepth 100000 in
set_option maxHeartbeats 4000000 in
theorem lc_1 (C0 : Cx p s m args meth c G A 68 ad cL_law RL 4) (hX : va_X b L xs s s.heap) (hbl : b < s.heap.size) (hbA : ¬ A b) (hxi : xi = nI i) (hi : i + 5 ≤ L) (hL : L ≤ 2560) (hmb : mb ≤ 61 * 600) (inv : INV mb O N K B R S H Z OM SM XM) (kk : ∀ (O : RW) (N K T B R S H Z : WM) (OM SM : RW) (XM : WM), INV (mb + 61) O N K B R S H Z OM SM XM → AW p l e room_1 s m args below meth c G A 68 ad (shL G ad) 4 600000 7302250 Q 1742 [(3, .int xi), (0, .ref b), (1, .ref (ad 0)), (2, .ref (ad 54))] [] (mkL (mkX O N K T B R S H Z) (mkM OM SM XM))) : AW p l e room_1 s m args below meth c G A 68 ad (shL G ad) 4 600000 7302250 Q 295 [(3, .int xi), (0, .ref b), (1, .ref (ad 0)), (2, .ref (ad 54))] [] (mkL (mkX O N K T B R S H Z) (mkM OM SM XM)) := by
  obtain ⟨⟨nT, mm, rp, hmm⟩, i4, iK, ⟨bn, tr⟩, ⟨cn, c6, c10, e13, rR⟩, rs, rh, dr⟩ := id inv
  have hm : mm + 61 < 2 ^ 31 := by omega
  have hx0 : IX xi (i + 0) L := IX.eqn hxi (by omega) (by omega)
  have hx1 : IX (xi + 1) (i + 1) L := IX.eqn (by rw [hxi, show (1 : Int32) = nI 1 from rfl, nI_add]) (by omega) (by omega)
  have hx2 : IX (xi + 2) (i + 2) L := IX.eqn (by rw [hxi, show (2 : Int32) = nI 2 from rfl, nI_add]) (by omega) (by omega)
  have hx3 : IX (xi + 3) (i + 3) L := IX.eqn (by rw [hxi, show (3 : Int32) = nI 3 from rfl, nI_add]) (by omega) (by omega)
  have hx4 : IX (xi + 4) (i + 4) L := IX.eqn (by rw [hxi, show (4 : Int32) = nI 4 from rfl, nI_add]) (by omega) (by omega)
  refine a_aload_n C0 2 dL_law_295 rfl rfl ?_
  refine a_callV _ 0 C0 em_LX (c_X5_parish l G tr.1 tr.2.2.1 rfl (ad := ad)) u_c_X5_parish u_m_L_20 u_im_X5_parish u_se_X5_parish u_in_X5 hy_X5_parish rfl (lt_b rfl) rfl (hRk rfl) rfl rfl (le_b rfl) dL_law_296 (k_i fun r296 u296 q296 => ?_)
  obtain ⟨rfl, B2, hB0, hB1, rfl⟩ := q296
  refine a_aload_n C0 3 dL_law_299 rfl rfl ?_
  refine a_callV _ 0 C0 em_LM (c_X6_parish l G (Q0 := T) rp tr.2 rfl (ad := fun k => ad (54 + k))) u_c_X6_parish u_m_L_24 u_im_X6_parish u_se_X6_parish u_in_X6 hy_X6_parish rfl (lt_b rfl) rfl (hRk rfl) rfl rfl (le_b rfl) dL_law_300 (k_i fun r300 u300 q300 => ?_)
  obtain ⟨rfl, O2, S2, X2, rfl, hX2, h62, hO2, h132, T9, m9, rp2, hm9⟩ := q300
  refine a_icmp_eq C0 1742 dL_law_303 rfl (fun h303 => ?_) (fun h303 => ?_)
  · exact kk _ _ _ _ _ _ _ _ _ _ _ _ (inv.parish hB0 hX2 h62 hO2 h132 rp2 (by omega))
  · exact (h303 rfl).elim
set_option maxRecDepth 100000 in
set_option maxHeartbeats 4000000 in
theorem lc_2 (C0 : Cx p s m args meth c G A 68 ad cL_law RL 4) (hX : va_X b L xs s s.heap) (hbl : b < s.heap.size) (hbA : ¬ A b) (hxi : xi = nI i) (hi : i + 5 ≤ L) (hL : L ≤ 2560) (hmb : mb ≤ 61 * 600) (inv : INV mb O N K B R S H Z OM SM XM) (kk : ∀ (O : RW) (N K T B R S H Z : WM) (OM SM : RW) (XM : WM), INV (mb + 61) O N K B R S H Z OM SM XM → AW p l e room_1 s m args below meth c G A 68 ad (shL G ad) 4 600000 7302250 Q 1742 [(3, .int xi), (0, .ref b), (1, .ref (ad 0)), (2, .ref (ad 54))] [] (mkL (mkX O N K T B R S H Z) (mkM OM SM XM))) : AW p l e room_1 s m args below meth c G A 68 ad (shL G ad) 4 600000 7302250 Q 308 [(3, .int xi), (0, .ref b), (1, .ref (ad 0)), (2, .ref (ad 54))] [] (mkL (mkX O N K T B R S H Z) (mkM OM SM XM)) := by
  obtain ⟨⟨nT, mm, rp, hmm⟩, i4, iK, ⟨bn, tr⟩, ⟨cn, c6, c10, e13, rR⟩, rs, rh, dr⟩ := id inv
  have hm : mm + 61 < 2 ^ 31 := by omega
  have hx0 : IX xi (i + 0) L := IX.eqn hxi (by omega) (by omega)
  have hx1 : IX (xi + 1) (i + 1) L := IX.eqn (by rw [hxi, show (1 : Int32) = nI 1 from rfl, nI_add]) (by omega) (by omega)
  have hx2 : IX (xi + 2) (i + 2) L := IX.eqn (by rw [hxi, show (2 : Int32) = nI 2 from rfl, nI_add]) (by omega) (by omega)
  have hx3 : IX (xi + 3) (i + 3) L := IX.eqn (by rw [hxi, show (3 : Int32) = nI 3 from rfl, nI_add]) (by omega) (by omega)
  have hx4 : IX (xi + 4) (i + 4) L := IX.eqn (by rw [hxi, show (4 : Int32) = nI 4 from rfl, nI_add]) (by omega) (by omega)
  refine a_aload_n C0 2 dL_law_308 rfl rfl ?_
  refine a_aload_n C0 1 dL_law_309 rfl rfl ?_
  refine a_iload_n C0 0 dL_law_310 rfl rfl ?_
  refine a_iconst C0 1 dL_law_311 rfl ?_
  refine a_iadd C0 dL_law_312 ?_
  refine a_sld C0 hX hbl hbA (i + 1) hx1.1 hx1.2 dL_law_313 ?_
  refine a_aload_n C0 1 dL_law_314 rfl rfl ?_
  refine a_iload_n C0 0 dL_law_315 rfl rfl ?_
  refine a_iconst C0 2 dL_law_316 rfl ?_
  refine a_iadd C0 dL_law_317 ?_
  refine a_sld C0 hX hbl hbA (i + 2) hx2.1 hx2.2 dL_law_318 ?_
  refine a_callV _ 2 C0 em_LX (c_X5_set l G rfl (ad := ad)) u_c_X5_set u_m_L_25 u_im_X5_set u_se_X5_set u_in_X5 hy_X5_set rfl (lt_b rfl) rfl (hRk rfl) rfl rfl (le_b rfl) dL_law_319 (k_de ?_)
  refine a_aload_n C0 3 dL_law_322 rfl rfl ?_
  refine a_aload_n C0 1 dL_law_323 rfl rfl ?_
  refine a_iload_n C0 0 dL_law_324 rfl rfl ?_
  refine a_iconst C0 1 dL_law_325 rfl ?_
  refine a_iadd C0 dL_law_326 ?_
  refine a_sld C0 hX hbl hbA (i + 1) hx1.1 hx1.2 dL_law_327 ?_
  refine a_aload_n C0 1 dL_law_328 rfl rfl ?_
  refine a_iload_n C0 0 dL_law_329 rfl rfl ?_
  refine a_iconst C0 2 dL_law_330 rfl ?_
  refine a_iadd C0 dL_law_331 ?_
  refine a_sld C0 hX hbl hbA (i + 2) hx2.1 hx2.2 dL_law_332 ?_
  refine a_callV _ 2 C0 em_LM (c_X6_set l G rp rfl (ad := fun k => ad (54 + k))) u_c_X6_set u_m_L_29 u_im_X6_set u_se_X6_set u_in_X6 hy_X6_set rfl (lt_b rfl) rfl (hRk rfl) rfl rfl (le_b rfl) dL_law_333 (k_i fun r333 u333 q333 => ?_)
  obtain ⟨rfl, S2, rfl, rp2⟩ := q333
  refine a_icmp_eq C0 1742 dL_law_336 rfl (fun h336 => ?_) (fun h336 => ?_)
  · exact kk _ _ _ _ _ _ _ _ _ _ _ _ (inv.now rp2 (by omega))
  · exact (h336 rfl).elim
set_option maxRecDepth 100000 in
set_option maxHeartbeats 4000000 in
theorem lc_3 (C0 : Cx p s m args meth c G A 68 ad cL_law RL 4) (hX : va_X b L xs s s.heap) (hbl : b < s.heap.size) (hbA : ¬ A b) (hxi : xi = nI i) (hi : i + 5 ≤ L) (hL : L ≤ 2560) (hmb : mb ≤ 61 * 600) (inv : INV mb O N K B R S H Z OM SM XM) (kk : ∀ (O : RW) (N K T B R S H Z : WM) (OM SM : RW) (XM : WM), INV (mb + 61) O N K B R S H Z OM SM XM → AW p l e room_1 s m args below meth c G A 68 ad (shL G ad) 4 600000 7302250 Q 1742 [(3, .int xi), (0, .ref b), (1, .ref (ad 0)), (2, .ref (ad 54))] [] (mkL (mkX O N K T B R S H Z) (mkM OM SM XM))) : AW p l e room_1 s m args below meth c G A 68 ad (shL G ad) 4 600000 7302250 Q 341 [(3, .int xi), (0, .ref b), (1, .ref (ad 0)), (2, .ref (ad 54))] [] (mkL (mkX O N K T B R S H Z) (mkM OM SM XM)) := by
  obtain ⟨⟨nT, mm, rp, hmm⟩, i4, iK, ⟨bn, tr⟩, ⟨cn, c6, c10, e13, rR⟩, rs, rh, dr⟩ := id inv
  have hm : mm + 61 < 2 ^ 31 := by omega
  have hx0 : IX xi (i + 0) L := IX.eqn hxi (by omega) (by omega)
  have hx1 : IX (xi + 1) (i + 1) L := IX.eqn (by rw [hxi, show (1 : Int32) = nI 1 from rfl, nI_add]) (by omega) (by omega)
  have hx2 : IX (xi + 2) (i + 2) L := IX.eqn (by rw [hxi, show (2 : Int32) = nI 2 from rfl, nI_add]) (by omega) (by omega)
  have hx3 : IX (xi + 3) (i + 3) L := IX.eqn (by rw [hxi, show (3 : Int32) = nI 3 from rfl, nI_add]) (by omega) (by omega)
  have hx4 : IX (xi + 4) (i + 4) L := IX.eqn (by rw [hxi, show (4 : Int32) = nI 4 from rfl, nI_add]) (by omega) (by omega)
  refine a_aload_n C0 2 dL_law_341 rfl rfl ?_
  refine a_aload_n C0 1 dL_law_342 rfl rfl ?_
  refine a_iload_n C0 0 dL_law_343 rfl rfl ?_
  refine a_iconst C0 1 dL_law_344 rfl ?_
  refine a_iadd C0 dL_law_345 ?_
  refine a_sld C0 hX hbl hbA (i + 1) hx1.1 hx1.2 dL_law_346 ?_
  refine a_callV _ 1 C0 em_LX (c_X5_lawOf l G rfl (ad := ad)) u_c_X5_lawOf u_m_L_30 u_im_X5_lawOf u_se_X5_lawOf u_in_X5 hy_X5_lawOf rfl (lt_b rfl) rfl (hRk rfl) rfl rfl (le_b rfl) dL_law_347 (k_ro em_LX ?_)
  refine a_aload_n C0 3 dL_law_350 rfl rfl ?_
  refine a_aload_n C0 1 dL_law_351 rfl rfl ?_
  refine a_iload_n C0 0 dL_law_352 rfl rfl ?_
  refine a_iconst C0 1 dL_law_353 rfl ?_
  refine a_iadd C0 dL_law_354 ?_
  refine a_sld C0 hX hbl hbA (i + 1) hx1.1 hx1.2 dL_law_355 ?_
  refine a_callV _ 1 C0 em_LM (c_X6_lawOf l G rp rfl (ad := fun k => ad (54 + k))) u_c_X6_lawOf u_m_L_34 u_im_X6_lawOf u_se_X6_lawOf u_in_X6 hy_X6_lawOf rfl (lt_b rfl) rfl (hRk rfl) rfl rfl (le_b rfl) dL_law_356 (k_ro em_LM ?_)
  refine a_icmp_eq C0 1742 dL_law_359 rfl (fun h359 => ?_) (fun h359 => ?_)
  · exact kk _ _ _ _ _ _ _ _ _ _ _ _ (inv.up)
  · exact (h359 rfl).elim
set_option maxRecDepth 100000 in
set_option maxHeartbeats 4000000 in
theorem lc_4 (C0 : Cx p s m args meth c G A 68 ad cL_law RL 4) (hX : va_X b L xs s s.heap) (hbl : b < s.heap.size) (hbA : ¬ A b) (hxi : xi = nI i) (hi : i + 5 ≤ L) (hL : L ≤ 2560) (hmb : mb ≤ 61 * 600) (inv : INV mb O N K B R S H Z OM SM XM) (kk : ∀ (O : RW) (N K T B R S H Z : WM) (OM SM : RW) (XM : WM), INV (mb + 61) O N K B R S H Z OM SM XM → AW p l e room_1 s m args below meth c G A 68 ad (shL G ad) 4 600000 7302250 Q 1742 [(3, .int xi), (0, .ref b), (1, .ref (ad 0)), (2, .ref (ad 54))] [] (mkL (mkX O N K T B R S H Z) (mkM OM SM XM))) : AW p l e room_1 s m args below meth c G A 68 ad (shL G ad) 4 600000 7302250 Q 364 [(3, .int xi), (0, .ref b), (1, .ref (ad 0)), (2, .ref (ad 54))] [] (mkL (mkX O N K T B R S H Z) (mkM OM SM XM)) := by
  obtain ⟨⟨nT, mm, rp, hmm⟩, i4, iK, ⟨bn, tr⟩, ⟨cn, c6, c10, e13, rR⟩, rs, rh, dr⟩ := id inv
  have hm : mm + 61 < 2 ^ 31 := by omega
  have hx0 : IX xi (i + 0) L := IX.eqn hxi (by omega) (by omega)
  have hx1 : IX (xi + 1) (i + 1) L := IX.eqn (by rw [hxi, show (1 : Int32) = nI 1 from rfl, nI_add]) (by omega) (by omega)
  have hx2 : IX (xi + 2) (i + 2) L := IX.eqn (by rw [hxi, show (2 : Int32) = nI 2 from rfl, nI_add]) (by omega) (by omega)
  have hx3 : IX (xi + 3) (i + 3) L := IX.eqn (by rw [hxi, show (3 : Int32) = nI 3 from rfl, nI_add]) (by omega) (by omega)
  have hx4 : IX (xi + 4) (i + 4) L := IX.eqn (by rw [hxi, show (4 : Int32) = nI 4 from rfl, nI_add]) (by omega) (by omega)
  refine a_aload_n C0 2 dL_law_364 rfl rfl ?_
  refine a_aload_n C0 1 dL_law_365 rfl rfl ?_
  refine a_iload_n C0 0 dL_law_366 rfl rfl ?_
  refine a_iconst C0 1 dL_law_367 rfl ?_
  refine a_iadd C0 dL_law_368 ?_
  refine a_sld C0 hX hbl hbA (i + 1) hx1.1 hx1.2 dL_law_369 ?_
  refine a_aload_n C0 1 dL_law_370 rfl rfl ?_
  refine a_iload_n C0 0 dL_law_371 rfl rfl ?_
  refine a_iconst C0 2 dL_law_372 rfl ?_
  refine a_iadd C0 dL_law_373 ?_
  refine a_sld C0 hX hbl hbA (i + 2) hx2.1 hx2.2 dL_law_374 ?_
  refine a_aload_n C0 1 dL_law_375 rfl rfl ?_
  refine a_iload_n C0 0 dL_law_376 rfl rfl ?_
  refine a_iconst C0 3 dL_law_377 rfl ?_
  refine a_iadd C0 dL_law_378 ?_
  refine a_sld C0 hX hbl hbA (i + 3) hx3.1 hx3.2 dL_law_379 ?_
  refine a_callV _ 3 C0 em_LX (c_X5_tale l G rp.w rfl (ad := ad)) u_c_X5_tale u_m_L_35 u_im_X5_tale u_se_X5_tale u_in_X5 hy_X5_tale rfl (lt_b rfl) rfl (hRk rfl) rfl rfl (le_b rfl) dL_law_380 (k_de ?_)
  refine a_aload_n C0 3 dL_law_383 rfl rfl ?_
  refine a_aload_n C0 1 dL_law_384 rfl rfl ?_
  refine a_iload_n C0 0 dL_law_385 rfl rfl ?_
  refine a_iconst C0 1 dL_law_386 rfl ?_
  refine a_iadd C0 dL_law_387 ?_
  refine a_sld C0 hX hbl hbA (i + 1) hx1.1 hx1.2 dL_law_388 ?_
  refine a_aload_n C0 1 dL_law_389 rfl rfl ?_
  refine a_iload_n C0 0 dL_law_390 rfl rfl ?_
  refine a_iconst C0 2 dL_law_391 rfl ?_
  refine a_iadd C0 dL_law_392 ?_
  refine a_sld C0 hX hbl hbA (i + 2) hx2.1 hx2.2 dL_law_393 ?_
  refine a_aload_n C0 1 dL_law_394 rfl rfl ?_
  refine a_iload_n C0 0 dL_law_395 rfl rfl ?_
  refine a_iconst C0 3 dL_law_396 rfl ?_
  refine a_iadd C0 dL_law_397 ?_
  refine a_sld C0 hX hbl hbA (i + 3) hx3.1 hx3.2 dL_law_398 ?_
  refine a_callV _ 3 C0 em_LM (c_X6_tale l G rp rfl (ad := fun k => ad (54 + k))) u_c_X6_tale u_m_L_39 u_im_X6_tale u_se_X6_tale u_in_X6 hy_X6_tale rfl (lt_b rfl) rfl (hRk rfl) rfl rfl (le_b rfl) dL_law_399 (k_i fun r399 u399 q399 => ?_)
  obtain ⟨rfl, S2, T9, rfl, rp2⟩ := q399
  refine a_icmp_eq C0 1742 dL_law_402 rfl (fun h402 => ?_) (fun h402 => ?_)
  · exact kk _ _ _ _ _ _ _ _ _ _ _ _ (inv.now rp2 (by omega))
  · exact (h402 rfl).elim
set_option maxRecDepth 100000 in
set_option maxHeartbeats 4000000 in
theorem lc_5 (C0 : Cx p s m args meth c G A 68 ad cL_law RL 4) (hX : va_X b L xs s s.heap) (hbl : b < s.heap.size) (hbA : ¬ A b) (hxi : xi = nI i) (hi : i + 5 ≤ L) (hL : L ≤ 2560) (hmb : mb ≤ 61 * 600) (inv : INV mb O N K B R S H Z OM SM XM) (kk : ∀ (O : RW) (N K T B R S H Z : WM) (OM SM : RW) (XM : WM), INV (mb + 61) O N K B R S H Z OM SM XM → AW p l e room_1 s m args below meth c G A 68 ad (shL G ad) 4 600000 7302250 Q 1742 [(3, .int xi), (0, .ref b), (1, .ref (ad 0)), (2, .ref (ad 54))] [] (mkL (mkX O N K T B R S H Z) (mkM OM SM XM))) : AW p l e room_1 s m args below meth c G A 68 ad (shL G ad) 4 600000 7302250 Q 407 [(3, .int xi), (0, .ref b), (1, .ref (ad 0)), (2, .ref (ad 54))] [] (mkL (mkX O N K T B R S H Z) (mkM OM SM XM)) := by
  obtain ⟨⟨nT, mm, rp, hmm⟩, i4, iK, ⟨bn, tr⟩, ⟨cn, c6, c10, e13, rR⟩, rs, rh, dr⟩ := id inv
  have hm : mm + 61 < 2 ^ 31 := by omega
  have hx0 : IX xi (i + 0) L := IX.eqn hxi (by omega) (by omega)
  have hx1 : IX (xi + 1) (i + 1) L := IX.eqn (by rw [hxi, show (1 : Int32) = nI 1 from rfl, nI_add]) (by omega) (by omega)
  have hx2 : IX (xi + 2) (i + 2) L := IX.eqn (by rw [hxi, show (2 : Int32) = nI 2 from rfl, nI_add]) (by omega) (by omega)
  have hx3 : IX (xi + 3) (i + 3) L := IX.eqn (by rw [hxi, show (3 : Int32) = nI 3 from rfl, nI_add]) (by omega) (by omega)
  have hx4 : IX (xi + 4) (i + 4) L := IX.eqn (by rw [hxi, show (4 : Int32) = nI 4 from rfl, nI_add]) (by omega) (by omega)
  refine a_aload_n C0 2 dL_law_407 rfl rfl ?_
  refine a_aload_n C0 1 dL_law_408 rfl rfl ?_
  refine a_iload_n C0 0 dL_law_409 rfl rfl ?_
  refine a_iconst C0 1 dL_law_410 rfl ?_
  refine a_iadd C0 dL_law_411 ?_
  refine a_sld C0 hX hbl hbA (i + 1) hx1.1 hx1.2 dL_law_412 ?_
  refine a_aload_n C0 1 dL_law_413 rfl rfl ?_
  refine a_iload_n C0 0 dL_law_414 rfl rfl ?_
  refine a_iconst C0 2 dL_law_415 rfl ?_
  refine a_iadd C0 dL_law_416 ?_
  refine a_sld C0 hX hbl hbA (i + 2) hx2.1 hx2.2 dL_law_417 ?_
  refine a_callV _ 2 C0 em_LX (c_X5_of l G rp.w rfl (ad := ad)) u_c_X5_of u_m_L_40 u_im_X5_of u_se_X5_of u_in_X5 hy_X5_of rfl (lt_b rfl) rfl (hRk rfl) rfl rfl (le_b rfl) dL_law_418 (k_ro em_LX ?_)
  refine a_aload_n C0 3 dL_law_421 rfl rfl ?_
  refine a_aload_n C0 1 dL_law_422 rfl rfl ?_
  refine a_iload_n C0 0 dL_law_423 rfl rfl ?_
  refine a_iconst C0 1 dL_law_424 rfl ?_
  refine a_iadd C0 dL_law_425 ?_
  refine a_sld C0 hX hbl hbA (i + 1) hx1.1 hx1.2 dL_law_426 ?_
  refine a_aload_n C0 1 dL_law_427 rfl rfl ?_
  refine a_iload_n C0 0 dL_law_428 rfl rfl ?_
  refine a_iconst C0 2 dL_law_429 rfl ?_
  refine a_iadd C0 dL_law_430 ?_
  refine a_sld C0 hX hbl hbA (i + 2) hx2.1 hx2.2 dL_law_431 ?_
  refine a_callV _ 2 C0 em_LM (c_X6_of l G rp rfl (ad := fun k => ad (54 + k))) u_c_X6_of u_m_L_43 u_im_X6_of u_se_X6_of u_in_X6 hy_X6_of rfl (lt_b rfl) rfl (hRk rfl) rfl rfl (le_b rfl) dL_law_432 (k_ro em_LM ?_)
  refine a_icmp_eq C0 1742 dL_law_435 rfl (fun h435 => ?_) (fun h435 => ?_)
  · exact kk _ _ _ _ _ _ _ _ _ _ _ _ (inv.up)
  · exact (h435 rfl).elim
set_option maxRecDepth 100000 in
set_option maxHeartbeats 4000000 in
theorem lc_6 (C0 : Cx p s m args meth c G A 68 ad cL_law RL 4) (hX : va_X b L xs s s.heap) (hbl : b < s.heap.size) (hbA : ¬ A b) (hxi : xi = nI i) (hi : i + 5 ≤ L) (hL : L ≤ 2560) (hmb : mb ≤ 61 * 600) (inv : INV mb O N K B R S H Z OM SM XM) (kk : ∀ (O : RW) (N K T B R S H Z : WM) (OM SM : RW) (XM : WM), INV (mb + 61) O N K B R S H Z OM SM XM → AW p l e room_1 s m args below meth c G A 68 ad (shL G ad) 4 600000 7302250 Q 1742 [(3, .int xi), (0, .ref b), (1, .ref (ad 0)), (2, .ref (ad 54))] [] (mkL (mkX O N K T B R S H Z) (mkM OM SM XM))) : AW p l e room_1 s m args below meth c G A 68 ad (shL G ad) 4 600000 7302250 Q 440 [(3, .int xi), (0, .ref b), (1, .ref (ad 0)), (2, .ref (ad 54))] [] (mkL (mkX O N K T B R S H Z) (mkM OM SM XM)) := by
  obtain ⟨⟨nT, mm, rp, hmm⟩, i4, iK, ⟨bn, tr⟩, ⟨cn, c6, c10, e13, rR⟩, rs, rh, dr⟩ := id inv
  have hm : mm + 61 < 2 ^ 31 := by omega
  have hx0 : IX xi (i + 0) L := IX.eqn hxi (by omega) (by omega)
  have hx1 : IX (xi + 1) (i + 1) L := IX.eqn (by rw [hxi, show (1 : Int32) = nI 1 from rfl, nI_add]) (by omega) (by omega)
  have hx2 : IX (xi + 2) (i + 2) L := IX.eqn (by rw [hxi, show (2 : Int32) = nI 2 from rfl, nI_add]) (by omega) (by omega)
  have hx3 : IX (xi + 3) (i + 3) L := IX.eqn (by rw [hxi, show (3 : Int32) = nI 3 from rfl, nI_add]) (by omega) (by omega)
  have hx4 : IX (xi + 4) (i + 4) L := IX.eqn (by rw [hxi, show (4 : Int32) = nI 4 from rfl, nI_add]) (by omega) (by omega)
  refine a_aload_n C0 2 dL_law_440 rfl rfl ?_
  refine a_aload_n C0 1 dL_law_441 rfl rfl ?_
  refine a_iload_n C0 0 dL_law_442 rfl rfl ?_
  refine a_iconst C0 1 dL_law_443 rfl ?_
  refine a_iadd C0 dL_law_444 ?_
  refine a_sld C0 hX hbl hbA (i + 1) hx1.1 hx1.2 dL_law_445 ?_
  refine a_aload_n C0 1 dL_law_446 rfl rfl ?_
  refine a_iload_n C0 0 dL_law_447 rfl rfl ?_
  refine a_iconst C0 2 dL_law_448 rfl ?_
  refine a_iadd C0 dL_law_449 ?_
  refine a_sld C0 hX hbl hbA (i + 2) hx2.1 hx2.2 dL_law_450 ?_
  refine a_callV _ 2 C0 em_LX (c_X5_does l G rp.w rfl (ad := ad)) u_c_X5_does u_m_L_44 u_im_X5_does u_se_X5_does u_in_X5 hy_X5_does rfl (lt_b rfl) rfl (hRk rfl) rfl rfl (le_b rfl) dL_law_451 (k_ro em_LX ?_)
  refine a_aload_n C0 3 dL_law_454 rfl rfl ?_
  refine a_aload_n C0 1 dL_law_455 rfl rfl ?_
  refine a_iload_n C0 0 dL_law_456 rfl rfl ?_
  refine a_iconst C0 1 dL_law_457 rfl ?_
  refine a_iadd C0 dL_law_458 ?_
  refine a_sld C0 hX hbl hbA (i + 1) hx1.1 hx1.2 dL_law_459 ?_
  refine a_aload_n C0 1 dL_law_460 rfl rfl ?_
  refine a_iload_n C0 0 dL_law_461 rfl rfl ?_
  refine a_iconst C0 2 dL_law_462 rfl ?_
  refine a_iadd C0 dL_law_463 ?_
  refine a_sld C0 hX hbl hbA (i + 2) hx2.1 hx2.2 dL_law_464 ?_
  refine a_callV _ 2 C0 em_LM (c_X6_does l G rp (by omega) rfl (ad := fun k => ad (54 + k))) u_c_X6_does u_m_L_47 u_im_X6_does u_se_X6_does u_in_X6 hy_X6_does rfl (lt_b rfl) rfl (hRk rfl) rfl rfl (le_b rfl) dL_law_465 (k_ro em_LM ?_)
  refine a_icmp_eq C0 1742 dL_law_468 rfl (fun h468 => ?_) (fun h468 => ?_)
  · exact kk _ _ _ _ _ _ _ _ _ _ _ _ (inv.up)
  · exact (h468 rfl).elim
set_option maxRecDepth 100000 in
set_option maxHeartbeats 4000000 in
theorem lc_7 (C0 : Cx p s m args meth c G A 68 ad cL_law RL 4) (hX : va_X b L xs s s.heap) (hbl : b < s.heap.size) (hbA : ¬ A b) (hxi : xi = nI i) (hi : i + 5 ≤ L) (hL : L ≤ 2560) (hmb : mb ≤ 61 * 600) (inv : INV mb O N K B R S H Z OM SM XM) (kk : ∀ (O : RW) (N K T B R S H Z : WM) (OM SM : RW) (XM : WM), INV (mb + 61) O N K B R S H Z OM SM XM → AW p l e room_1 s m args below meth c G A 68 ad (shL G ad) 4 600000 7302250 Q 1742 [(3, .int xi), (0, .ref b), (1, .ref (ad 0)), (2, .ref (ad 54))] [] (mkL (mkX O N K T B R S H Z) (mkM OM SM XM))) : AW p l e room_1 s m args below meth c G A 68 ad (shL G ad) 4 600000 7302250 Q 473 [(3, .int xi), (0, .ref b), (1, .ref (ad 0)), (2, .ref (ad 54))] [] (mkL (mkX O N K T B R S H Z) (mkM OM SM XM)) := by
  obtain ⟨⟨nT, mm, rp, hmm⟩, i4, iK, ⟨bn, tr⟩, ⟨cn, c6, c10, e13, rR⟩, rs, rh, dr⟩ := id inv
  have hm : mm + 61 < 2 ^ 31 := by omega
  have hx0 : IX xi (i + 0) L := IX.eqn hxi (by omega) (by omega)
  have hx1 : IX (xi + 1) (i + 1) L := IX.eqn (by rw [hxi, show (1 : Int32) = nI 1 from rfl, nI_add]) (by omega) (by omega)
  have hx2 : IX (xi + 2) (i + 2) L := IX.eqn (by rw [hxi, show (2 : Int32) = nI 2 from rfl, nI_add]) (by omega) (by omega)
  have hx3 : IX (xi + 3) (i + 3) L := IX.eqn (by rw [hxi, show (3 : Int32) = nI 3 from rfl, nI_add]) (by omega) (by omega)
  have hx4 : IX (xi + 4) (i + 4) L := IX.eqn (by rw [hxi, show (4 : Int32) = nI 4 from rfl, nI_add]) (by omega) (by omega)
  refine a_aload_n C0 2 dL_law_473 rfl rfl ?_
  refine a_aload_n C0 1 dL_law_474 rfl rfl ?_
  refine a_iload_n C0 0 dL_law_475 rfl rfl ?_
  refine a_iconst C0 1 dL_law_476 rfl ?_
  refine a_iadd C0 dL_law_477 ?_
  refine a_sld C0 hX hbl hbA (i + 1) hx1.1 hx1.2 dL_law_478 ?_
  refine a_aload_n C0 1 dL_law_479 rfl rfl ?_
  refine a_iload_n C0 0 dL_law_480 rfl rfl ?_
  refine a_iconst C0 2 dL_law_481 rfl ?_
  refine a_iadd C0 dL_law_482 ?_
  refine a_sld C0 hX hbl hbA (i + 2) hx2.1 hx2.2 dL_law_483 ?_
  refine a_callV _ 2 C0 em_LX (c_X5_mind l G rp.w rfl (ad := ad)) u_c_X5_mind u_m_L_48 u_im_X5_mind u_se_X5_mind u_in_X5 hy_X5_mind rfl (lt_b rfl) rfl (hRk rfl) rfl rfl (le_b rfl) dL_law_484 (k_de ?_)
  refine a_aload_n C0 3 dL_law_487 rfl rfl ?_
  refine a_aload_n C0 1 dL_law_488 rfl rfl ?_
  refine a_iload_n C0 0 dL_law_489 rfl rfl ?_
  refine a_iconst C0 1 dL_law_490 rfl ?_
  refine a_iadd C0 dL_law_491 ?_
  refine a_sld C0 hX hbl hbA (i + 1) hx1.1 hx1.2 dL_law_492 ?_
  refine a_aload_n C0 1 dL_law_493 rfl rfl ?_
  refine a_iload_n C0 0 dL_law_494 rfl rfl ?_
  refine a_iconst C0 2 dL_law_495 rfl ?_
  refine a_iadd C0 dL_law_496 ?_
  refine a_sld C0 hX hbl hbA (i + 2) hx2.1 hx2.2 dL_law_497 ?_
  refine a_callV _ 2 C0 em_LM (c_X6_mind l G rp rfl (ad := fun k => ad (54 + k))) u_c_X6_mind u_m_L_51 u_im_X6_mind u_se_X6_mind u_in_X6 hy_X6_mind rfl (lt_b rfl) rfl (hRk rfl) rfl rfl (le_b rfl) dL_law_498 (k_i fun r498 u498 q498 => ?_)
  obtain ⟨rfl, S2, rfl, rp2⟩ := q498
  refine a_icmp_eq C0 1742 dL_law_501 rfl (fun h501 => ?_) (fun h501 => ?_)
  · exact kk _ _ _ _ _ _ _ _ _ _ _ _ (inv.now rp2 (by omega))
  · exact (h501 rfl).elim
set_option maxRecDepth 100000 in
set_option maxHeartbeats 4000000 in
theorem lc_8 (C0 : Cx p s m args meth c G A 68 ad cL_law RL 4) (hX : va_X b L xs s s.heap) (hbl : b < s.heap.size) (hbA : ¬ A b) (hxi : xi = nI i) (hi : i + 5 ≤ L) (hL : L ≤ 2560) (hmb : mb ≤ 61 * 600) (inv : INV mb O N K B R S H Z OM SM XM) (kk : ∀ (O : RW) (N K T B R S H Z : WM) (OM SM : RW) (XM : WM), INV (mb + 61) O N K B R S H Z OM SM XM → AW p l e room_1 s m args below meth c G A 68 ad (shL G ad) 4 600000 7302250 Q 1742 [(3, .int xi), (0, .ref b), (1, .ref (ad 0)), (2, .ref (ad 54))] [] (mkL (mkX O N K T B R S H Z) (mkM OM SM XM))) : AW p l e room_1 s m args below meth c G A 68 ad (shL G ad) 4 600000 7302250 Q 506 [(3, .int xi), (0, .ref b), (1, .ref (ad 0)), (2, .ref (ad 54))] [] (mkL (mkX O N K T B R S H Z) (mkM OM SM XM)) := by
  obtain ⟨⟨nT, mm, rp, hmm⟩, i4, iK, ⟨bn, tr⟩, ⟨cn, c6, c10, e13, rR⟩, rs, rh, dr⟩ := id inv
  have hm : mm + 61 < 2 ^ 31 := by omega
  have hx0 : IX xi (i + 0) L := IX.eqn hxi (by omega) (by omega)
  have hx1 : IX (xi + 1) (i + 1) L := IX.eqn (by rw [hxi, show (1 : Int32) = nI 1 from rfl, nI_add]) (by omega) (by omega)
  have hx2 : IX (xi + 2) (i + 2) L := IX.eqn (by rw [hxi, show (2 : Int32) = nI 2 from rfl, nI_add]) (by omega) (by omega)
  have hx3 : IX (xi + 3) (i + 3) L := IX.eqn (by rw [hxi, show (3 : Int32) = nI 3 from rfl, nI_add]) (by omega) (by omega)
  have hx4 : IX (xi + 4) (i + 4) L := IX.eqn (by rw [hxi, show (4 : Int32) = nI 4 from rfl, nI_add]) (by omega) (by omega)
  refine a_aload_n C0 2 dL_law_506 rfl rfl ?_
  refine a_aload_n C0 1 dL_law_507 rfl rfl ?_
  refine a_iload_n C0 0 dL_law_508 rfl rfl ?_
  refine a_iconst C0 1 dL_law_509 rfl ?_
  refine a_iadd C0 dL_law_510 ?_
  refine a_sld C0 hX hbl hbA (i + 1) hx1.1 hx1.2 dL_law_511 ?_
  refine a_aload_n C0 1 dL_law_512 rfl rfl ?_
  refine a_iload_n C0 0 dL_law_513 rfl rfl ?_
  refine a_iconst C0 2 dL_law_514 rfl ?_
  refine a_iadd C0 dL_law_515 ?_
  refine a_sld C0 hX hbl hbA (i + 2) hx2.1 hx2.2 dL_law_516 ?_
  refine a_callV _ 2 C0 em_LX (c_X5_warm l G rp.w rfl (ad := ad)) u_c_X5_warm u_m_L_52 u_im_X5_warm u_se_X5_warm u_in_X5 hy_X5_warm rfl (lt_b rfl) rfl (hRk rfl) rfl rfl (le_b rfl) dL_law_517 (k_de ?_)
  refine a_aload_n C0 3 dL_law_520 rfl rfl ?_
  refine a_aload_n C0 1 dL_law_521 rfl rfl ?_
  refine a_iload_n C0 0 dL_law_522 rfl rfl ?_
  refine a_iconst C0 1 dL_law_523 rfl ?_
  refine a_iadd C0 dL_law_524 ?_
  refine a_sld C0 hX hbl hbA (i + 1) hx1.1 hx1.2 dL_law_525 ?_
  refine a_aload_n C0 1 dL_law_526 rfl rfl ?_
  refine a_iload_n C0 0 dL_law_527 rfl rfl ?_
  refine a_iconst C0 2 dL_law_528 rfl ?_
  refine a_iadd C0 dL_law_529 ?_
  refine a_sld C0 hX hbl hbA (i + 2) hx2.1 hx2.2 dL_law_530 ?_
  refine a_callV _ 2 C0 em_LM (c_X6_warm l G rp rfl (ad := fun k => ad (54 + k))) u_c_X6_warm u_m_L_55 u_im_X6_warm u_se_X6_warm u_in_X6 hy_X6_warm rfl (lt_b rfl) rfl (hRk rfl) rfl rfl (le_b rfl) dL_law_531 (k_i fun r531 u531 q531 => ?_)
  obtain ⟨rfl, S2, rfl, rp2⟩ := q531
  refine a_icmp_eq C0 1742 dL_law_534 rfl (fun h534 => ?_) (fun h534 => ?_)
  · exact kk _ _ _ _ _ _ _ _ _ _ _ _ (inv.now rp2 (by omega))
  · exact (h534 rfl).elim
set_option maxRecDepth 100000 in
set_option maxHeartbeats 4000000 in
theorem lc_9 (C0 : Cx p s m args meth c G A 68 ad cL_law RL 4) (hX : va_X b L xs s s.heap) (hbl : b < s.heap.size) (hbA : ¬ A b) (hxi : xi = nI i) (hi : i + 5 ≤ L) (hL : L ≤ 2560) (hmb : mb ≤ 61 * 600) (inv : INV mb O N K B R S H Z OM SM XM) (kk : ∀ (O : RW) (N K T B R S H Z : WM) (OM SM : RW) (XM : WM), INV (mb + 61) O N K B R S H Z OM SM XM → AW p l e room_1 s m args below meth c G A 68 ad (shL G ad) 4 600000 7302250 Q 1742 [(3, .int xi), (0, .ref b), (1, .ref (ad 0)), (2, .ref (ad 54))] [] (mkL (mkX O N K T B R S H Z) (mkM OM SM XM))) : AW p l e room_1 s m args below meth c G A 68 ad (shL G ad) 4 600000 7302250 Q 539 [(3, .int xi), (0, .ref b), (1, .ref (ad 0)), (2, .ref (ad 54))] [] (mkL (mkX O N K T B R S H Z) (mkM OM SM XM)) := by
  obtain ⟨⟨nT, mm, rp, hmm⟩, i4, iK, ⟨bn, tr⟩, ⟨cn, c6, c10, e13, rR⟩, rs, rh, dr⟩ := id inv
  have hm : mm + 61 < 2 ^ 31 := by omega
  have hx0 : IX xi (i + 0) L := IX.eqn hxi (by omega) (by omega)
  have hx1 : IX (xi + 1) (i + 1) L := IX.eqn (by rw [hxi, show (1 : Int32) = nI 1 from rfl, nI_add]) (by omega) (by omega)
  have hx2 : IX (xi + 2) (i + 2) L := IX.eqn (by rw [hxi, show (2 : Int32) = nI 2 from rfl, nI_add]) (by omega) (by omega)
  have hx3 : IX (xi + 3) (i + 3) L := IX.eqn (by rw [hxi, show (3 : Int32) = nI 3 from rfl, nI_add]) (by omega) (by omega)
  have hx4 : IX (xi + 4) (i + 4) L := IX.eqn (by rw [hxi, show (4 : Int32) = nI 4 from rfl, nI_add]) (by omega) (by omega)
  refine a_aload_n C0 2 dL_law_539 rfl rfl ?_
  refine a_aload_n C0 1 dL_law_540 rfl rfl ?_
  refine a_iload_n C0 0 dL_law_541 rfl rfl ?_
  refine a_iconst C0 1 dL_law_542 rfl ?_
  refine a_iadd C0 dL_law_543 ?_
  refine a_sld C0 hX hbl hbA (i + 1) hx1.1 hx1.2 dL_law_544 ?_
  refine a_aload_n C0 1 dL_law_545 rfl rfl ?_
  refine a_iload_n C0 0 dL_law_546 rfl rfl ?_
  refine a_iconst C0 2 dL_law_547 rfl ?_
  refine a_iadd C0 dL_law_548 ?_
  refine a_sld C0 hX hbl hbA (i + 2) hx2.1 hx2.2 dL_law_549 ?_
  refine a_callV _ 2 C0 em_LX (c_X5_carry l G rp.w rfl (ad := ad)) u_c_X5_carry u_m_L_56 u_im_X5_carry u_se_X5_carry u_in_X5 hy_X5_carry rfl (lt_b rfl) rfl (hRk rfl) rfl rfl (le_b rfl) dL_law_550 (k_de ?_)
  refine a_aload_n C0 3 dL_law_553 rfl rfl ?_
  refine a_aload_n C0 1 dL_law_554 rfl rfl ?_
  refine a_iload_n C0 0 dL_law_555 rfl rfl ?_
  refine a_iconst C0 1 dL_law_556 rfl ?_
  refine a_iadd C0 dL_law_557 ?_
  refine a_sld C0 hX hbl hbA (i + 1) hx1.1 hx1.2 dL_law_558 ?_
  refine a_aload_n C0 1 dL_law_559 rfl rfl ?_
  refine a_iload_n C0 0 dL_law_560 rfl rfl ?_
  refine a_iconst C0 2 dL_law_561 rfl ?_
  refine a_iadd C0 dL_law_562 ?_
  refine a_sld C0 hX hbl hbA (i + 2) hx2.1 hx2.2 dL_law_563 ?_
  refine a_callV _ 2 C0 em_LM (c_X6_carry l G rp rfl (ad := fun k => ad (54 + k))) u_c_X6_carry u_m_L_59 u_im_X6_carry u_se_X6_carry u_in_X6 hy_X6_carry rfl (lt_b rfl) rfl (hRk rfl) rfl rfl (le_b rfl) dL_law_564 (k_i fun r564 u564 q564 => ?_)
  obtain ⟨rfl, S2, rfl, rp2⟩ := q564
  refine a_icmp_eq C0 1742 dL_law_567 rfl (fun h567 => ?_) (fun h567 => ?_)
  · exact kk _ _ _ _ _ _ _ _ _ _ _ _ (inv.now rp2 (by omega))
  · exact (h567 rfl).elim
set_option maxRecDepth 100000 in
set_option maxHeartbeats 4000000 in
theorem lc_10 (C0 : Cx p s m args meth c G A 68 ad cL_law RL 4) (hX : va_X b L xs s s.heap) (hbl : b < s.heap.size) (hbA : ¬ A b) (hxi : xi = nI i) (hi : i + 5 ≤ L) (hL : L ≤ 2560) (hmb : mb ≤ 61 * 600) (inv : INV mb O N K B R S H Z OM SM XM) (kk : ∀ (O : RW) (N K T B R S H Z : WM) (OM SM : RW) (XM : WM), INV (mb + 61) O N K B R S H Z OM SM XM → AW p l e room_1 s m args below meth c G A 68 ad (shL G ad) 4 600000 7302250 Q 1742 [(3, .int xi), (0, .ref b), (1, .ref (ad 0)), (2, .ref (ad 54))] [] (mkL (mkX O N K T B R S H Z) (mkM OM SM XM))) : AW p l e room_1 s m args below meth c G A 68 ad (shL G ad) 4 600000 7302250 Q 572 [(3, .int xi), (0, .ref b), (1, .ref (ad 0)), (2, .ref (ad 54))] [] (mkL (mkX O N K T B R S H Z) (mkM OM SM XM)) := by
  obtain ⟨⟨nT, mm, rp, hmm⟩, i4, iK, ⟨bn, tr⟩, ⟨cn, c6, c10, e13, rR⟩, rs, rh, dr⟩ := id inv
  have hm : mm + 61 < 2 ^ 31 := by omega
  have hx0 : IX xi (i + 0) L := IX.eqn hxi (by omega) (by omega)
  have hx1 : IX (xi + 1) (i + 1) L := IX.eqn (by rw [hxi, show (1 : Int32) = nI 1 from rfl, nI_add]) (by omega) (by omega)
  have hx2 : IX (xi + 2) (i + 2) L := IX.eqn (by rw [hxi, show (2 : Int32) = nI 2 from rfl, nI_add]) (by omega) (by omega)
  have hx3 : IX (xi + 3) (i + 3) L := IX.eqn (by rw [hxi, show (3 : Int32) = nI 3 from rfl, nI_add]) (by omega) (by omega)
  have hx4 : IX (xi + 4) (i + 4) L := IX.eqn (by rw [hxi, show (4 : Int32) = nI 4 from rfl, nI_add]) (by omega) (by omega)
  refine a_aload_n C0 2 dL_law_572 rfl rfl ?_
  refine a_aload_n C0 1 dL_law_573 rfl rfl ?_
  refine a_iload_n C0 0 dL_law_574 rfl rfl ?_
  refine a_iconst C0 1 dL_law_575 rfl ?_
  refine a_iadd C0 dL_law_576 ?_
  refine a_sld C0 hX hbl hbA (i + 1) hx1.1 hx1.2 dL_law_577 ?_
  refine a_aload_n C0 1 dL_law_578 rfl rfl ?_
  refine a_iload_n C0 0 dL_law_579 rfl rfl ?_
  refine a_iconst C0 2 dL_law_580 rfl ?_
  refine a_iadd C0 dL_law_581 ?_
  refine a_sld C0 hX hbl hbA (i + 2) hx2.1 hx2.2 dL_law_582 ?_
  refine a_aload_n C0 1 dL_law_583 rfl rfl ?_
  refine a_iload_n C0 0 dL_law_584 rfl rfl ?_
  refine a_iconst C0 3 dL_law_585 rfl ?_
  refine a_iadd C0 dL_law_586 ?_
  refine a_sld C0 hX hbl hbA (i + 3) hx3.1 hx3.2 dL_law_587 ?_
  refine a_callV _ 3 C0 em_LX (c_X5_house l G rp.w rfl (ad := ad)) u_c_X5_house u_m_L_60 u_im_X5_house u_se_X5_house u_in_X5 hy_X5_house rfl (lt_b rfl) rfl (hRk rfl) rfl rfl (le_b rfl) dL_law_588 (k_de ?_)
  refine a_aload_n C0 3 dL_law_591 rfl rfl ?_
  refine a_aload_n C0 1 dL_law_592 rfl rfl ?_
  refine a_iload_n C0 0 dL_law_593 rfl rfl ?_
  refine a_iconst C0 1 dL_law_594 rfl ?_
  refine a_iadd C0 dL_law_595 ?_
  refine a_sld C0 hX hbl hbA (i + 1) hx1.1 hx1.2 dL_law_596 ?_
  refine a_aload_n C0 1 dL_law_597 rfl rfl ?_
  refine a_iload_n C0 0 dL_law_598 rfl rfl ?_
  refine a_iconst C0 2 dL_law_599 rfl ?_
  refine a_iadd C0 dL_law_600 ?_
  refine a_sld C0 hX hbl hbA (i + 2) hx2.1 hx2.2 dL_law_601 ?_
  refine a_aload_n C0 1 dL_law_602 rfl rfl ?_
  refine a_iload_n C0 0 dL_law_603 rfl rfl ?_
  refine a_iconst C0 3 dL_law_604 rfl ?_
  refine a_iadd C0 dL_law_605 ?_
  refine a_sld C0 hX hbl hbA (i + 3) hx3.1 hx3.2 dL_law_606 ?_
  refine a_callV _ 3 C0 em_LM (c_X6_house l G rp rfl (ad := fun k => ad (54 + k))) u_c_X6_house u_m_L_63 u_im_X6_house u_se_X6_house u_in_X6 hy_X6_house rfl (lt_b rfl) rfl (hRk rfl) rfl rfl (le_b rfl) dL_law_607 (k_i fun r607 u607 q607 => ?_)
  obtain ⟨rfl, S2, rfl, rp2⟩ := q607
  refine a_icmp_eq C0 1742 dL_law_610 rfl (fun h610 => ?_) (fun h610 => ?_)
  · exact kk _ _ _ _ _ _ _ _ _ _ _ _ (inv.now rp2 (by omega))
  · exact (h610 rfl).elim
set_option maxRecDepth 100000 in
set_option maxHeartbeats 4000000 in
theorem lc_11 (C0 : Cx p s m args meth c G A 68 ad cL_law RL 4) (hX : va_X b L xs s s.heap) (hbl : b < s.heap.size) (hbA : ¬ A b) (hxi : xi = nI i) (hi : i + 5 ≤ L) (hL : L ≤ 2560) (hmb : mb ≤ 61 * 600) (inv : INV mb O N K B R S H Z OM SM XM) (kk : ∀ (O : RW) (N K T B R S H Z : WM) (OM SM : RW) (XM : WM), INV (mb + 61) O N K B R S H Z OM SM XM → AW p l e room_1 s m args below meth c G A 68 ad (shL G ad) 4 600000 7302250 Q 1742 [(3, .int xi), (0, .ref b), (1, .ref (ad 0)), (2, .ref (ad 54))] [] (mkL (mkX O N K T B R S H Z) (mkM OM SM XM))) : AW p l e room_1 s m args below meth c G A 68 ad (shL G ad) 4 600000 7302250 Q 615 [(3, .int xi), (0, .ref b), (1, .ref (ad 0)), (2, .ref (ad 54))] [] (mkL (mkX O N K T B R S H Z) (mkM OM SM XM)) := by
  obtain ⟨⟨nT, mm, rp, hmm⟩, i4, iK, ⟨bn, tr⟩, ⟨cn, c6, c10, e13, rR⟩, rs, rh, dr⟩ := id inv
  have hm : mm + 61 < 2 ^ 31 := by omega
  have hx0 : IX xi (i + 0) L := IX.eqn hxi (by omega) (by omega)
  have hx1 : IX (xi + 1) (i + 1) L := IX.eqn (by rw [hxi, show (1 : Int32) = nI 1 from rfl, nI_add]) (by omega) (by omega)
  have hx2 : IX (xi + 2) (i + 2) L := IX.eqn (by rw [hxi, show (2 : Int32) = nI 2 from rfl, nI_add]) (by omega) (by omega)
  have hx3 : IX (xi + 3) (i + 3) L := IX.eqn (by rw [hxi, show (3 : Int32) = nI 3 from rfl, nI_add]) (by omega) (by omega)
  have hx4 : IX (xi + 4) (i + 4) L := IX.eqn (by rw [hxi, show (4 : Int32) = nI 4 from rfl, nI_add]) (by omega) (by omega)
  refine a_aload_n C0 2 dL_law_615 rfl rfl ?_
  refine a_aload_n C0 1 dL_law_616 rfl rfl ?_
  refine a_iload_n C0 0 dL_law_617 rfl rfl ?_
  refine a_iconst C0 1 dL_law_618 rfl ?_
  refine a_iadd C0 dL_law_619 ?_
  refine a_sld C0 hX hbl hbA (i + 1) hx1.1 hx1.2 dL_law_620 ?_
  refine a_aload_n C0 1 dL_law_621 rfl rfl ?_
  refine a_iload_n C0 0 dL_law_622 rfl rfl ?_
  refine a_iconst C0 2 dL_law_623 rfl ?_
  refine a_iadd C0 dL_law_624 ?_
  refine a_sld C0 hX hbl hbA (i + 2) hx2.1 hx2.2 dL_law_625 ?_
  refine a_callV _ 2 C0 em_LX (c_X5_houseOf l G rp.w rfl (ad := ad)) u_c_X5_houseOf u_m_L_64 u_im_X5_houseOf u_se_X5_houseOf u_in_X5 hy_X5_houseOf rfl (lt_b rfl) rfl (hRk rfl) rfl rfl (le_b rfl) dL_law_626 (k_ro em_LX ?_)
  refine a_aload_n C0 3 dL_law_629 rfl rfl ?_
  refine a_aload_n C0 1 dL_law_630 rfl rfl ?_
  refine a_iload_n C0 0 dL_law_631 rfl rfl ?_
  refine a_iconst C0 1 dL_law_632 rfl ?_
  refine a_iadd C0 dL_law_633 ?_
  refine a_sld C0 hX hbl hbA (i + 1) hx1.1 hx1.2 dL_law_634 ?_
  refine a_aload_n C0 1 dL_law_635 rfl rfl ?_
  refine a_iload_n C0 0 dL_law_636 rfl rfl ?_
  refine a_iconst C0 2 dL_law_637 rfl ?_
  refine a_iadd C0 dL_law_638 ?_
  refine a_sld C0 hX hbl hbA (i + 2) hx2.1 hx2.2 dL_law_639 ?_
  refine a_callV _ 2 C0 em_LM (c_X6_houseOf l G rp rfl (ad := fun k => ad (54 + k))) u_c_X6_houseOf u_m_L_67 u_im_X6_houseOf u_se_X6_houseOf u_in_X6 hy_X6_houseOf rfl (lt_b rfl) rfl (hRk rfl) rfl rfl (le_b rfl) dL_law_640 (k_ro em_LM ?_)
  refine a_icmp_eq C0 1742 dL_law_643 rfl (fun h643 => ?_) (fun h643 => ?_)
  · exact kk _ _ _ _ _ _ _ _ _ _ _ _ (inv.up)
  · exact (h643 rfl).elim
set_option maxRecDepth 100000 in
set_option maxHeartbeats 4000000 in
theorem lc_12 (C0 : Cx p s m args meth c G A 68 ad cL_law RL 4) (hX : va_X b L xs s s.heap) (hbl : b < s.heap.size) (hbA : ¬ A b) (hxi : xi = nI i) (hi : i + 5 ≤ L) (hL : L ≤ 2560) (hmb : mb ≤ 61 * 600) (inv : INV mb O N K B R S H Z OM SM XM) (kk : ∀ (O : RW) (N K T B R S H Z : WM) (OM SM : RW) (XM : WM), INV (mb + 61) O N K B R S H Z OM SM XM → AW p l e room_1 s m args below meth c G A 68 ad (shL G ad) 4 600000 7302250 Q 1742 [(3, .int xi), (0, .ref b), (1, .ref (ad 0)), (2, .ref (ad 54))] [] (mkL (mkX O N K T B R S H Z) (mkM OM SM XM))) : AW p l e room_1 s m args below meth c G A 68 ad (shL G ad) 4 600000 7302250 Q 648 [(3, .int xi), (0, .ref b), (1, .ref (ad 0)), (2, .ref (ad 54))] [] (mkL (mkX O N K T B R S H Z) (mkM OM SM XM)) := by
  obtain ⟨⟨nT, mm, rp, hmm⟩, i4, iK, ⟨bn, tr⟩, ⟨cn, c6, c10, e13, rR⟩, rs, rh, dr⟩ := id inv
  have hm : mm + 61 < 2 ^ 31 := by omega
  have hx0 : IX xi (i + 0) L := IX.eqn hxi (by omega) (by omega)
  have hx1 : IX (xi + 1) (i + 1) L := IX.eqn (by rw [hxi, show (1 : Int32) = nI 1 from rfl, nI_add]) (by omega) (by omega)
  have hx2 : IX (xi + 2) (i + 2) L := IX.eqn (by rw [hxi, show (2 : Int32) = nI 2 from rfl, nI_add]) (by omega) (by omega)
  have hx3 : IX (xi + 3) (i + 3) L := IX.eqn (by rw [hxi, show (3 : Int32) = nI 3 from rfl, nI_add]) (by omega) (by omega)
  have hx4 : IX (xi + 4) (i + 4) L := IX.eqn (by rw [hxi, show (4 : Int32) = nI 4 from rfl, nI_add]) (by omega) (by omega)
  refine a_aload_n C0 2 dL_law_648 rfl rfl ?_
  refine a_aload_n C0 1 dL_law_649 rfl rfl ?_
  refine a_iload_n C0 0 dL_law_650 rfl rfl ?_
  refine a_iconst C0 1 dL_law_651 rfl ?_
  refine a_iadd C0 dL_law_652 ?_
  refine a_sld C0 hX hbl hbA (i + 1) hx1.1 hx1.2 dL_law_653 ?_
  refine a_callV _ 1 C0 em_LX (c_X5_minutes l G rp.w rfl (ad := ad)) u_c_X5_minutes u_m_L_68 u_im_X5_minutes u_se_X5_minutes u_in_X5 hy_X5_minutes rfl (lt_b rfl) rfl (hRk rfl) rfl rfl (le_b rfl) dL_law_654 (k_de ?_)
  refine a_aload_n C0 3 dL_law_657 rfl rfl ?_
  refine a_aload_n C0 1 dL_law_658 rfl rfl ?_
  refine a_iload_n C0 0 dL_law_659 rfl rfl ?_
  refine a_iconst C0 1 dL_law_660 rfl ?_
  refine a_iadd C0 dL_law_661 ?_
  refine a_sld C0 hX hbl hbA (i + 1) hx1.1 hx1.2 dL_law_662 ?_
  refine a_callV _ 1 C0 em_LM (c_X6_minutes l G rp (by omega) rfl (ad := fun k => ad (54 + k))) u_c_X6_minutes u_m_L_71 u_im_X6_minutes u_se_X6_minutes u_in_X6 hy_X6_minutes rfl (lt_b rfl) rfl (hRk rfl) rfl rfl (le_b rfl) dL_law_663 (k_i fun r663 u663 q663 => ?_)
  obtain ⟨rfl, S2, rfl, rp2⟩ := q663
  refine a_icmp_eq C0 1742 dL_law_666 rfl (fun h666 => ?_) (fun h666 => ?_)
  · exact kk _ _ _ _ _ _ _ _ _ _ _ _ (inv.now rp2 (by
      split
      · next h =>
        have := vp_lt (in_of (n := 60) (by decide) ⟨Int32.le_trans (by decide) h.1, h.2⟩)
        omega
      · omega))
  · exact (h666 rfl).elim
set_option maxRecDepth 100000 in
set_option maxHeartbeats 4000000 in
theorem lc_13 (C0 : Cx p s m args meth c G A 68 ad cL_law RL 4) (hX : va_X b L xs s s.heap) (hbl : b < s.heap.size) (hbA : ¬ A b) (hxi : xi = nI i) (hi : i + 5 ≤ L) (hL : L ≤ 2560) (hmb : mb ≤ 61 * 600) (inv : INV mb O N K B R S H Z OM SM XM) (kk : ∀ (O : RW) (N K T B R S H Z : WM) (OM SM : RW) (XM : WM), INV (mb + 61) O N K B R S H Z OM SM XM → AW p l e room_1 s m args below meth c G A 68 ad (shL G ad) 4 600000 7302250 Q 1742 [(3, .int xi), (0, .ref b), (1, .ref (ad 0)), (2, .ref (ad 54))] [] (mkL (mkX O N K T B R S H Z) (mkM OM SM XM))) : AW p l e room_1 s m args below meth c G A 68 ad (shL G ad) 4 600000 7302250 Q 671 [(3, .int xi), (0, .ref b), (1, .ref (ad 0)), (2, .ref (ad 54))] [] (mkL (mkX O N K T B R S H Z) (mkM OM SM XM)) := by
  obtain ⟨⟨nT, mm, rp, hmm⟩, i4, iK, ⟨bn, tr⟩, ⟨cn, c6, c10, e13, rR⟩, rs, rh, dr⟩ := id inv
  have hm : mm + 61 < 2 ^ 31 := by omega
  have hx0 : IX xi (i + 0) L := IX.eqn hxi (by omega) (by omega)
  have hx1 : IX (xi + 1) (i + 1) L := IX.eqn (by rw [hxi, show (1 : Int32) = nI 1 from rfl, nI_add]) (by omega) (by omega)
  have hx2 : IX (xi + 2) (i + 2) L := IX.eqn (by rw [hxi, show (2 : Int32) = nI 2 from rfl, nI_add]) (by omega) (by omega)
  have hx3 : IX (xi + 3) (i + 3) L := IX.eqn (by rw [hxi, show (3 : Int32) = nI 3 from rfl, nI_add]) (by omega) (by omega)
  have hx4 : IX (xi + 4) (i + 4) L := IX.eqn (by rw [hxi, show (4 : Int32) = nI 4 from rfl, nI_add]) (by omega) (by omega)
  refine a_aload_n C0 2 dL_law_671 rfl rfl ?_
  refine a_aload_n C0 1 dL_law_672 rfl rfl ?_
  refine a_iload_n C0 0 dL_law_673 rfl rfl ?_
  refine a_iconst C0 1 dL_law_674 rfl ?_
  refine a_iadd C0 dL_law_675 ?_
  refine a_sld C0 hX hbl hbA (i + 1) hx1.1 hx1.2 dL_law_676 ?_
  refine a_callV _ 1 C0 em_LX (c_X5_seed l G rfl (ad := ad)) u_c_X5_seed u_m_L_72 u_im_X5_seed u_se_X5_seed u_in_X5 hy_X5_seed rfl (lt_b rfl) rfl (hRk rfl) rfl rfl (le_b rfl) dL_law_677 (k_de ?_)
  refine a_aload_n C0 3 dL_law_680 rfl rfl ?_
  refine a_aload_n C0 1 dL_law_681 rfl rfl ?_
  refine a_iload_n C0 0 dL_law_682 rfl rfl ?_
  refine a_iconst C0 1 dL_law_683 rfl ?_
  refine a_iadd C0 dL_law_684 ?_
  refine a_sld C0 hX hbl hbA (i + 1) hx1.1 hx1.2 dL_law_685 ?_
  refine a_callV _ 1 C0 em_LM (c_X6_seed l G rp rfl (ad := fun k => ad (54 + k))) u_c_X6_seed u_m_L_75 u_im_X6_seed u_se_X6_seed u_in_X6 hy_X6_seed rfl (lt_b rfl) rfl (hRk rfl) rfl rfl (le_b rfl) dL_law_686 (k_i fun r686 u686 q686 => ?_)
  obtain ⟨rfl, S2, rfl, rp2⟩ := q686
  refine a_icmp_eq C0 1742 dL_law_689 rfl (fun h689 => ?_) (fun h689 => ?_)
  · exact kk _ _ _ _ _ _ _ _ _ _ _ _ (inv.now rp2 (by omega))
  · exact (h689 rfl).elim
set_option maxRecDepth 100000 in
set_option maxHeartbeats 4000000 in
theorem lc_14 (C0 : Cx p s m args meth c G A 68 ad cL_law RL 4) (hX : va_X b L xs s s.heap) (hbl : b < s.heap.size) (hbA : ¬ A b) (hxi : xi = nI i) (hi : i + 5 ≤ L) (hL : L ≤ 2560) (hmb : mb ≤ 61 * 600) (inv : INV mb O N K B R S H Z OM SM XM) (kk : ∀ (O : RW) (N K T B R S H Z : WM) (OM SM : RW) (XM : WM), INV (mb + 61) O N K B R S H Z OM SM XM → AW p l e room_1 s m args below meth c G A 68 ad (shL G ad) 4 600000 7302250 Q 1742 [(3, .int xi), (0, .ref b), (1, .ref (ad 0)), (2, .ref (ad 54))] [] (mkL (mkX O N K T B R S H Z) (mkM OM SM XM))) : AW p l e room_1 s m args below meth c G A 68 ad (shL G ad) 4 600000 7302250 Q 694 [(3, .int xi), (0, .ref b), (1, .ref (ad 0)), (2, .ref (ad 54))] [] (mkL (mkX O N K T B R S H Z) (mkM OM SM XM)) := by
  obtain ⟨⟨nT, mm, rp, hmm⟩, i4, iK, ⟨bn, tr⟩, ⟨cn, c6, c10, e13, rR⟩, rs, rh, dr⟩ := id inv
  have hm : mm + 61 < 2 ^ 31 := by omega
  have hx0 : IX xi (i + 0) L := IX.eqn hxi (by omega) (by omega)
  have hx1 : IX (xi + 1) (i + 1) L := IX.eqn (by rw [hxi, show (1 : Int32) = nI 1 from rfl, nI_add]) (by omega) (by omega)
  have hx2 : IX (xi + 2) (i + 2) L := IX.eqn (by rw [hxi, show (2 : Int32) = nI 2 from rfl, nI_add]) (by omega) (by omega)
  have hx3 : IX (xi + 3) (i + 3) L := IX.eqn (by rw [hxi, show (3 : Int32) = nI 3 from rfl, nI_add]) (by omega) (by omega)
  have hx4 : IX (xi + 4) (i + 4) L := IX.eqn (by rw [hxi, show (4 : Int32) = nI 4 from rfl, nI_add]) (by omega) (by omega)
  refine a_aload_n C0 2 dL_law_694 rfl rfl ?_
  refine a_callV _ 0 C0 em_LX (c_X5_minute l G rp.w rfl (ad := ad)) u_c_X5_minute u_m_L_76 u_im_X5_minute u_se_X5_minute u_in_X5 hy_X5_minute rfl (lt_b rfl) rfl (hRk rfl) rfl rfl (le_b rfl) dL_law_695 (k_de ?_)
  refine a_aload_n C0 3 dL_law_698 rfl rfl ?_
  refine a_callV _ 0 C0 em_LM (c_X6_minute l G rp (by omega) rfl (ad := fun k => ad (54 + k))) u_c_X6_minute u_m_L_79 u_im_X6_minute u_se_X6_minute u_in_X6 hy_X6_minute rfl (lt_b rfl) rfl (hRk rfl) rfl rfl (le_b rfl) dL_law_699 (k_i fun r699 u699 q699 => ?_)
  obtain ⟨rfl, S2, rfl, rp2⟩ := q699
  refine a_icmp_eq C0 1742 dL_law_702 rfl (fun h702 => ?_) (fun h702 => ?_)
  · exact kk _ _ _ _ _ _ _ _ _ _ _ _ (inv.now rp2 (by omega))
  · exact (h702 rfl).elim
set_option maxRecDepth 100000 in
set_option maxHeartbeats 4000000 in
theorem lc_15 (C0 : Cx p s m args meth c G A 68 ad cL_law RL 4) (hX : va_X b L xs s s.heap) (hbl : b < s.heap.size) (hbA : ¬ A b) (hxi : xi = nI i) (hi : i + 5 ≤ L) (hL : L ≤ 2560) (hmb : mb ≤ 61 * 600) (inv : INV mb O N K B R S H Z OM SM XM) (kk : ∀ (O : RW) (N K T B R S H Z : WM) (OM SM : RW) (XM : WM), INV (mb + 61) O N K B R S H Z OM SM XM → AW p l e room_1 s m args below meth c G A 68 ad (shL G ad) 4 600000 7302250 Q 1742 [(3, .int xi), (0, .ref b), (1, .ref (ad 0)), (2, .ref (ad 54))] [] (mkL (mkX O N K T B R S H Z) (mkM OM SM XM))) : AW p l e room_1 s m args below meth c G A 68 ad (shL G ad) 4 600000 7302250 Q 707 [(3, .int xi), (0, .ref b), (1, .ref (ad 0)), (2, .ref (ad 54))] [] (mkL (mkX O N K T B R S H Z) (mkM OM SM XM)) := by
  obtain ⟨⟨nT, mm, rp, hmm⟩, i4, iK, ⟨bn, tr⟩, ⟨cn, c6, c10, e13, rR⟩, rs, rh, dr⟩ := id inv
  have hm : mm + 61 < 2 ^ 31 := by omega
  have hx0 : IX xi (i + 0) L := IX.eqn hxi (by omega) (by omega)
  have hx1 : IX (xi + 1) (i + 1) L := IX.eqn (by rw [hxi, show (1 : Int32) = nI 1 from rfl, nI_add]) (by omega) (by omega)
  have hx2 : IX (xi + 2) (i + 2) L := IX.eqn (by rw [hxi, show (2 : Int32) = nI 2 from rfl, nI_add]) (by omega) (by omega)
  have hx3 : IX (xi + 3) (i + 3) L := IX.eqn (by rw [hxi, show (3 : Int32) = nI 3 from rfl, nI_add]) (by omega) (by omega)
  have hx4 : IX (xi + 4) (i + 4) L := IX.eqn (by rw [hxi, show (4 : Int32) = nI 4 from rfl, nI_add]) (by omega) (by omega)
  refine a_aload_n C0 2 dL_law_707 rfl rfl ?_
  refine a_aload_n C0 1 dL_law_708 rfl rfl ?_
  refine a_iload_n C0 0 dL_law_709 rfl rfl ?_
  refine a_iconst C0 1 dL_law_710 rfl ?_
  refine a_iadd C0 dL_law_711 ?_
  refine a_sld C0 hX hbl hbA (i + 1) hx1.1 hx1.2 dL_law_712 ?_
  refine a_callV _ 1 C0 em_LX (c_X5_spread l G rp.w rfl (ad := ad)) u_c_X5_spread u_m_L_80 u_im_X5_spread u_se_X5_spread u_in_X5 hy_X5_spread rfl (lt_b rfl) rfl (hRk rfl) rfl rfl (le_b rfl) dL_law_713 (k_i fun r713 u713 q713 => ?_)
  obtain ⟨rfl, T2, rfl⟩ := q713
  refine a_aload_n C0 3 dL_law_716 rfl rfl ?_
  refine a_aload_n C0 1 dL_law_717 rfl rfl ?_
  refine a_iload_n C0 0 dL_law_718 rfl rfl ?_
  refine a_iconst C0 1 dL_law_719 rfl ?_
  refine a_iadd C0 dL_law_720 ?_
  refine a_sld C0 hX hbl hbA (i + 1) hx1.1 hx1.2 dL_law_721 ?_
  refine a_callV _ 1 C0 em_LM (c_X6_spread l G rp hm rfl (ad := fun k => ad (54 + k))) u_c_X6_spread u_m_L_83 u_im_X6_spread u_se_X6_spread u_in_X6 hy_X6_spread rfl (lt_b rfl) rfl (hRk rfl) rfl rfl (le_b rfl) dL_law_722 (k_i fun r722 u722 q722 => ?_)
  obtain ⟨rfl, S2, X2, rfl, hX2, hS2⟩ := q722
  refine a_icmp_eq C0 1742 dL_law_725 rfl (fun h725 => ?_) (fun h725 => ?_)
  · exact kk _ _ _ _ _ _ _ _ _ _ _ _ (inv.tr hX2 hS2)
  · exact (h725 rfl).elim
set_option maxRecDepth 100000 in
set_option maxHeartbeats 4000000 in
theorem lc_16 (C0 : Cx p s m args meth c G A 68 ad cL_law RL 4) (hX : va_X b L xs s s.heap) (hbl : b < s.heap.size) (hbA : ¬ A b) (hxi : xi = nI i) (hi : i + 5 ≤ L) (hL : L ≤ 2560) (hmb : mb ≤ 61 * 600) (inv : INV mb O N K B R S H Z OM SM XM) (kk : ∀ (O : RW) (N K T B R S H Z : WM) (OM SM : RW) (XM : WM), INV (mb + 61) O N K B R S H Z OM SM XM → AW p l e room_1 s m args below meth c G A 68 ad (shL G ad) 4 600000 7302250 Q 1742 [(3, .int xi), (0, .ref b), (1, .ref (ad 0)), (2, .ref (ad 54))] [] (mkL (mkX O N K T B R S H Z) (mkM OM SM XM))) : AW p l e room_1 s m args below meth c G A 68 ad (shL G ad) 4 600000 7302250 Q 730 [(3, .int xi), (0, .ref b), (1, .ref (ad 0)), (2, .ref (ad 54))] [] (mkL (mkX O N K T B R S H Z) (mkM OM SM XM)) := by
  obtain ⟨⟨nT, mm, rp, hmm⟩, i4, iK, ⟨bn, tr⟩, ⟨cn, c6, c10, e13, rR⟩, rs, rh, dr⟩ := id inv
  have hm : mm + 61 < 2 ^ 31 := by omega
  have hx0 : IX xi (i + 0) L := IX.eqn hxi (by omega) (by omega)
  have hx1 : IX (xi + 1) (i + 1) L := IX.eqn (by rw [hxi, show (1 : Int32) = nI 1 from rfl, nI_add]) (by omega) (by omega)
  have hx2 : IX (xi + 2) (i + 2) L := IX.eqn (by rw [hxi, show (2 : Int32) = nI 2 from rfl, nI_add]) (by omega) (by omega)
  have hx3 : IX (xi + 3) (i + 3) L := IX.eqn (by rw [hxi, show (3 : Int32) = nI 3 from rfl, nI_add]) (by omega) (by omega)
  have hx4 : IX (xi + 4) (i + 4) L := IX.eqn (by rw [hxi, show (4 : Int32) = nI 4 from rfl, nI_add]) (by omega) (by omega)
  refine a_aload_n C0 2 dL_law_730 rfl rfl ?_
  refine a_aload_n C0 1 dL_law_731 rfl rfl ?_
  refine a_iload_n C0 0 dL_law_732 rfl rfl ?_
  refine a_iconst C0 1 dL_law_733 rfl ?_
  refine a_iadd C0 dL_law_734 ?_
  refine a_sld C0 hX hbl hbA (i + 1) hx1.1 hx1.2 dL_law_735 ?_
  refine a_callV _ 1 C0 em_LX (c_X5_state l G rp.w rfl (ad := ad)) u_c_X5_state u_m_L_84 u_im_X5_state u_se_X5_state u_in_X5 hy_X5_state rfl (lt_b rfl) rfl (hRk rfl) rfl rfl (le_b rfl) dL_law_736 (k_ro em_LX ?_)
  refine a_aload_n C0 3 dL_law_739 rfl rfl ?_
  refine a_aload_n C0 1 dL_law_740 rfl rfl ?_
  refine a_iload_n C0 0 dL_law_741 rfl rfl ?_
  refine a_iconst C0 1 dL_law_742 rfl ?_
  refine a_iadd C0 dL_law_743 ?_
  refine a_sld C0 hX hbl hbA (i + 1) hx1.1 hx1.2 dL_law_744 ?_
  refine a_callV _ 1 C0 em_LM (c_X6_state l G rp rfl (ad := fun k => ad (54 + k))) u_c_X6_state u_m_L_87 u_im_X6_state u_se_X6_state u_in_X6 hy_X6_state rfl (lt_b rfl) rfl (hRk rfl) rfl rfl (le_b rfl) dL_law_745 (k_ro em_LM ?_)
  refine a_icmp_eq C0 1742 dL_law_748 rfl (fun h748 => ?_) (fun h748 => ?_)
  · exact kk _ _ _ _ _ _ _ _ _ _ _ _ (inv.up)
  · exact (h748 rfl).elim
set_option maxRecDepth 100000 in
set_option maxHeartbeats 4000000 in
theorem lc_17 (C0 : Cx p s m args meth c G A 68 ad cL_law RL 4) (hX : va_X b L xs s s.heap) (hbl : b < s.heap.size) (hbA : ¬ A b) (hxi : xi = nI i) (hi : i + 5 ≤ L) (hL : L ≤ 2560) (hmb : mb ≤ 61 * 600) (inv : INV mb O N K B R S H Z OM SM XM) (kk : ∀ (O : RW) (N K T B R S H Z : WM) (OM SM : RW) (XM : WM), INV (mb + 61) O N K B R S H Z OM SM XM → AW p l e room_1 s m args below meth c G A 68 ad (shL G ad) 4 600000 7302250 Q 1742 [(3, .int xi), (0, .ref b), (1, .ref (ad 0)), (2, .ref (ad 54))] [] (mkL (mkX O N K T B R S H Z) (mkM OM SM XM))) : AW p l e room_1 s m args below meth c G A 68 ad (shL G ad) 4 600000 7302250 Q 753 [(3, .int xi), (0, .ref b), (1, .ref (ad 0)), (2, .ref (ad 54))] [] (mkL (mkX O N K T B R S H Z) (mkM OM SM XM)) := by
  obtain ⟨⟨nT, mm, rp, hmm⟩, i4, iK, ⟨bn, tr⟩, ⟨cn, c6, c10, e13, rR⟩, rs, rh, dr⟩ := id inv
  have hm : mm + 61 < 2 ^ 31 := by omega
  have hx0 : IX xi (i + 0) L := IX.eqn hxi (by omega) (by omega)
  have hx1 : IX (xi + 1) (i + 1) L := IX.eqn (by rw [hxi, show (1 : Int32) = nI 1 from rfl, nI_add]) (by omega) (by omega)
  have hx2 : IX (xi + 2) (i + 2) L := IX.eqn (by rw [hxi, show (2 : Int32) = nI 2 from rfl, nI_add]) (by omega) (by omega)
  have hx3 : IX (xi + 3) (i + 3) L := IX.eqn (by rw [hxi, show (3 : Int32) = nI 3 from rfl, nI_add]) (by omega) (by omega)
  have hx4 : IX (xi + 4) (i + 4) L := IX.eqn (by rw [hxi, show (4 : Int32) = nI 4 from rfl, nI_add]) (by omega) (by omega)
  refine a_aload_n C0 2 dL_law_753 rfl rfl ?_
  refine a_aload_n C0 1 dL_law_754 rfl rfl ?_
  refine a_iload_n C0 0 dL_law_755 rfl rfl ?_
  refine a_iconst C0 1 dL_law_756 rfl ?_
  refine a_iadd C0 dL_law_757 ?_
  refine a_sld C0 hX hbl hbA (i + 1) hx1.1 hx1.2 dL_law_758 ?_
  refine a_aload_n C0 1 dL_law_759 rfl rfl ?_
  refine a_iload_n C0 0 dL_law_760 rfl rfl ?_
  refine a_iconst C0 2 dL_law_761 rfl ?_
  refine a_iadd C0 dL_law_762 ?_
  refine a_sld C0 hX hbl hbA (i + 2) hx2.1 hx2.2 dL_law_763 ?_
  refine a_callV _ 2 C0 em_LX (c_X5_where l G rp.w rfl (ad := ad)) u_c_X5_where u_m_L_88 u_im_X5_where u_se_X5_where u_in_X5 hy_X5_where rfl (lt_b rfl) rfl (hRk rfl) rfl rfl (le_b rfl) dL_law_764 (k_i fun r764 u764 q764 => ?_)
  obtain ⟨rfl, T2, rfl⟩ := q764
  refine a_aload_n C0 3 dL_law_767 rfl rfl ?_
  refine a_aload_n C0 1 dL_law_768 rfl rfl ?_
  refine a_iload_n C0 0 dL_law_769 rfl rfl ?_
  refine a_iconst C0 1 dL_law_770 rfl ?_
  refine a_iadd C0 dL_law_771 ?_
  refine a_sld C0 hX hbl hbA (i + 1) hx1.1 hx1.2 dL_law_772 ?_
  refine a_aload_n C0 1 dL_law_773 rfl rfl ?_
  refine a_iload_n C0 0 dL_law_774 rfl rfl ?_
  refine a_iconst C0 2 dL_law_775 rfl ?_
  refine a_iadd C0 dL_law_776 ?_
  refine a_sld C0 hX hbl hbA (i + 2) hx2.1 hx2.2 dL_law_777 ?_
  refine a_callV _ 2 C0 em_LM (c_X6_where l G rp hm rfl (ad := fun k => ad (54 + k))) u_c_X6_where u_m_L_91 u_im_X6_where u_se_X6_where u_in_X6 hy_X6_where rfl (lt_b rfl) rfl (hRk rfl) rfl rfl (le_b rfl) dL_law_778 (k_i fun r778 u778 q778 => ?_)
  obtain ⟨rfl, S2, X2, rfl, hX2, hS2⟩ := q778
  refine a_icmp_eq C0 1742 dL_law_781 rfl (fun h781 => ?_) (fun h781 => ?_)
  · exact kk _ _ _ _ _ _ _ _ _ _ _ _ (inv.tr hX2 hS2)
  · exact (h781 rfl).elim
set_option maxRecDepth 100000 in
set_option maxHeartbeats 4000000 in
theorem lc_18 (C0 : Cx p s m args meth c G A 68 ad cL_law RL 4) (hX : va_X b L xs s s.heap) (hbl : b < s.heap.size) (hbA : ¬ A b) (hxi : xi = nI i) (hi : i + 5 ≤ L) (hL : L ≤ 2560) (hmb : mb ≤ 61 * 600) (inv : INV mb O N K B R S H Z OM SM XM) (kk : ∀ (O : RW) (N K T B R S H Z : WM) (OM SM : RW) (XM : WM), INV (mb + 61) O N K B R S H Z OM SM XM → AW p l e room_1 s m args below meth c G A 68 ad (shL G ad) 4 600000 7302250 Q 1742 [(3, .int xi), (0, .ref b), (1, .ref (ad 0)), (2, .ref (ad 54))] [] (mkL (mkX O N K T B R S H Z) (mkM OM SM XM))) : AW p l e room_1 s m args below meth c G A 68 ad (shL G ad) 4 600000 7302250 Q 786 [(3, .int xi), (0, .ref b), (1, .ref (ad 0)), (2, .ref (ad 54))] [] (mkL (mkX O N K T B R S H Z) (mkM OM SM XM)) := by
  obtain ⟨⟨nT, mm, rp, hmm⟩, i4, iK, ⟨bn, tr⟩, ⟨cn, c6, c10, e13, rR⟩, rs, rh, dr⟩ := id inv
  have hm : mm + 61 < 2 ^ 31 := by omega
  have hx0 : IX xi (i + 0) L := IX.eqn hxi (by omega) (by omega)
  have hx1 : IX (xi + 1) (i + 1) L := IX.eqn (by rw [hxi, show (1 : Int32) = nI 1 from rfl, nI_add]) (by omega) (by omega)
  have hx2 : IX (xi + 2) (i + 2) L := IX.eqn (by rw [hxi, show (2 : Int32) = nI 2 from rfl, nI_add]) (by omega) (by omega)
  have hx3 : IX (xi + 3) (i + 3) L := IX.eqn (by rw [hxi, show (3 : Int32) = nI 3 from rfl, nI_add]) (by omega) (by omega)
  have hx4 : IX (xi + 4) (i + 4) L := IX.eqn (by rw [hxi, show (4 : Int32) = nI 4 from rfl, nI_add]) (by omega) (by omega)
  refine a_aload_n C0 2 dL_law_786 rfl rfl ?_
  refine a_aload_n C0 1 dL_law_787 rfl rfl ?_
  refine a_iload_n C0 0 dL_law_788 rfl rfl ?_
  refine a_iconst C0 1 dL_law_789 rfl ?_
  refine a_iadd C0 dL_law_790 ?_
  refine a_sld C0 hX hbl hbA (i + 1) hx1.1 hx1.2 dL_law_791 ?_
  refine a_aload_n C0 1 dL_law_792 rfl rfl ?_
  refine a_iload_n C0 0 dL_law_793 rfl rfl ?_
  refine a_iconst C0 2 dL_law_794 rfl ?_
  refine a_iadd C0 dL_law_795 ?_
  refine a_sld C0 hX hbl hbA (i + 2) hx2.1 hx2.2 dL_law_796 ?_
  refine a_callV _ 2 C0 em_LX (c_X5_comes l G rp.w rfl (ad := ad)) u_c_X5_comes u_m_L_92 u_im_X5_comes u_se_X5_comes u_in_X5 hy_X5_comes rfl (lt_b rfl) rfl (hRk rfl) rfl rfl (le_b rfl) dL_law_797 (k_i fun r797 u797 q797 => ?_)
  obtain ⟨rfl, T2, rfl⟩ := q797
  refine a_aload_n C0 3 dL_law_800 rfl rfl ?_
  refine a_aload_n C0 1 dL_law_801 rfl rfl ?_
  refine a_iload_n C0 0 dL_law_802 rfl rfl ?_
  refine a_iconst C0 1 dL_law_803 rfl ?_
  refine a_iadd C0 dL_law_804 ?_
  refine a_sld C0 hX hbl hbA (i + 1) hx1.1 hx1.2 dL_law_805 ?_
  refine a_aload_n C0 1 dL_law_806 rfl rfl ?_
  refine a_iload_n C0 0 dL_law_807 rfl rfl ?_
  refine a_iconst C0 2 dL_law_808 rfl ?_
  refine a_iadd C0 dL_law_809 ?_
  refine a_sld C0 hX hbl hbA (i + 2) hx2.1 hx2.2 dL_law_810 ?_
  refine a_callV _ 2 C0 em_LM (c_X6_comes l G rp hm rfl (ad := fun k => ad (54 + k))) u_c_X6_comes u_m_L_95 u_im_X6_comes u_se_X6_comes u_in_X6 hy_X6_comes rfl (lt_b rfl) rfl (hRk rfl) rfl rfl (le_b rfl) dL_law_811 (k_i fun r811 u811 q811 => ?_)
  obtain ⟨rfl, S2, X2, rfl, hX2, hS2⟩ := q811
  refine a_icmp_eq C0 1742 dL_law_814 rfl (fun h814 => ?_) (fun h814 => ?_)
  · exact kk _ _ _ _ _ _ _ _ _ _ _ _ (inv.tr hX2 hS2)
  · exact (h814 rfl).elim
set_option maxRecDepth 100000 in
set_option maxHeartbeats 4000000 in
theorem lc_19 (C0 : Cx p s m args meth c G A 68 ad cL_law RL 4) (hX : va_X b L xs s s.heap) (hbl : b < s.heap.size) (hbA : ¬ A b) (hxi : xi = nI i) (hi : i + 5 ≤ L) (hL : L ≤ 2560) (hmb : mb ≤ 61 * 600) (inv : INV mb O N K B R S H Z OM SM XM) (kk : ∀ (O : RW) (N K T B R S H Z : WM) (OM SM : RW) (XM : WM), INV (mb + 61) O N K B R S H Z OM SM XM → AW p l e room_1 s m args below meth c G A 68 ad (shL G ad) 4 600000 7302250 Q 1742 [(3, .int xi), (0, .ref b), (1, .ref (ad 0)), (2, .ref (ad 54))] [] (mkL (mkX O N K T B R S H Z) (mkM OM SM XM))) : AW p l e room_1 s m args below meth c G A 68 ad (shL G ad) 4 600000 7302250 Q 819 [(3, .int xi), (0, .ref b), (1, .ref (ad 0)), (2, .ref (ad 54))] [] (mkL (mkX O N K T B R S H Z) (mkM OM SM XM)) := by
  obtain ⟨⟨nT, mm, rp, hmm⟩, i4, iK, ⟨bn, tr⟩, ⟨cn, c6, c10, e13, rR⟩, rs, rh, dr⟩ := id inv
  have hm : mm + 61 < 2 ^ 31 := by omega
  have hx0 : IX xi (i + 0) L := IX.eqn hxi (by omega) (by omega)
  have hx1 : IX (xi + 1) (i + 1) L := IX.eqn (by rw [hxi, show (1 : Int32) = nI 1 from rfl, nI_add]) (by omega) (by omega)
  have hx2 : IX (xi + 2) (i + 2) L := IX.eqn (by rw [hxi, show (2 : Int32) = nI 2 from rfl, nI_add]) (by omega) (by omega)
  have hx3 : IX (xi + 3) (i + 3) L := IX.eqn (by rw [hxi, show (3 : Int32) = nI 3 from rfl, nI_add]) (by omega) (by omega)
  have hx4 : IX (xi + 4) (i + 4) L := IX.eqn (by rw [hxi, show (4 : Int32) = nI 4 from rfl, nI_add]) (by omega) (by omega)
  refine a_aload_n C0 2 dL_law_819 rfl rfl ?_
  refine a_aload_n C0 1 dL_law_820 rfl rfl ?_
  refine a_iload_n C0 0 dL_law_821 rfl rfl ?_
  refine a_iconst C0 1 dL_law_822 rfl ?_
  refine a_iadd C0 dL_law_823 ?_
  refine a_sld C0 hX hbl hbA (i + 1) hx1.1 hx1.2 dL_law_824 ?_
  refine a_callV _ 1 C0 em_LX (c_X5_cold l G rp.w rfl (ad := ad)) u_c_X5_cold u_m_L_96 u_im_X5_cold u_se_X5_cold u_in_X5 hy_X5_cold rfl (lt_b rfl) rfl (hRk rfl) rfl rfl (le_b rfl) dL_law_825 (k_i fun r825 u825 q825 => ?_)
  obtain ⟨rfl, T2, rfl⟩ := q825
  refine a_aload_n C0 3 dL_law_828 rfl rfl ?_
  refine a_aload_n C0 1 dL_law_829 rfl rfl ?_
  refine a_iload_n C0 0 dL_law_830 rfl rfl ?_
  refine a_iconst C0 1 dL_law_831 rfl ?_
  refine a_iadd C0 dL_law_832 ?_
  refine a_sld C0 hX hbl hbA (i + 1) hx1.1 hx1.2 dL_law_833 ?_
  refine a_callV _ 1 C0 em_LM (c_X6_cold l G rp hm rfl (ad := fun k => ad (54 + k))) u_c_X6_cold u_m_L_99 u_im_X6_cold u_se_X6_cold u_in_X6 hy_X6_cold rfl (lt_b rfl) rfl (hRk rfl) rfl rfl (le_b rfl) dL_law_834 (k_i fun r834 u834 q834 => ?_)
  obtain ⟨rfl, S2, X2, rfl, hX2, hS2⟩ := q834
  refine a_icmp_eq C0 1742 dL_law_837 rfl (fun h837 => ?_) (fun h837 => ?_)
  · exact kk _ _ _ _ _ _ _ _ _ _ _ _ (inv.tr hX2 hS2)
  · exact (h837 rfl).elim
set_option maxRecDepth 100000 in
set_option maxHeartbeats 4000000 in
theorem lc_20 (C0 : Cx p s m args meth c G A 68 ad cL_law RL 4) (hX : va_X b L xs s s.heap) (hbl : b < s.heap.size) (hbA : ¬ A b) (hxi : xi = nI i) (hi : i + 5 ≤ L) (hL : L ≤ 2560) (hmb : mb ≤ 61 * 600) (inv : INV mb O N K B R S H Z OM SM XM) (kk : ∀ (O : RW) (N K T B R S H Z : WM) (OM SM : RW) (XM : WM), INV (mb + 61) O N K B R S H Z OM SM XM → AW p l e room_1 s m args below meth c G A 68 ad (shL G ad) 4 600000 7302250 Q 1742 [(3, .int xi), (0, .ref b), (1, .ref (ad 0)), (2, .ref (ad 54))] [] (mkL (mkX O N K T B R S H Z) (mkM OM SM XM))) : AW p l e room_1 s m args below meth c G A 68 ad (shL G ad) 4 600000 7302250 Q 842 [(3, .int xi), (0, .ref b), (1, .ref (ad 0)), (2, .ref (ad 54))] [] (mkL (mkX O N K T B R S H Z) (mkM OM SM XM)) := by
  obtain ⟨⟨nT, mm, rp, hmm⟩, i4, iK, ⟨bn, tr⟩, ⟨cn, c6, c10, e13, rR⟩, rs, rh, dr⟩ := id inv
  have hm : mm + 61 < 2 ^ 31 := by omega
  have hx0 : IX xi (i + 0) L := IX.eqn hxi (by omega) (by omega)
  have hx1 : IX (xi + 1) (i + 1) L := IX.eqn (by rw [hxi, show (1 : Int32) = nI 1 from rfl, nI_add]) (by omega) (by omega)
  have hx2 : IX (xi + 2) (i + 2) L := IX.eqn (by rw [hxi, show (2 : Int32) = nI 2 from rfl, nI_add]) (by omega) (by omega)
  have hx3 : IX (xi + 3) (i + 3) L := IX.eqn (by rw [hxi, show (3 : Int32) = nI 3 from rfl, nI_add]) (by omega) (by omega)
  have hx4 : IX (xi + 4) (i + 4) L := IX.eqn (by rw [hxi, show (4 : Int32) = nI 4 from rfl, nI_add]) (by omega) (by omega)
  refine a_aload_n C0 2 dL_law_842 rfl rfl ?_
  refine a_aload_n C0 1 dL_law_843 rfl rfl ?_
  refine a_iload_n C0 0 dL_law_844 rfl rfl ?_
  refine a_iconst C0 1 dL_law_845 rfl ?_
  refine a_iadd C0 dL_law_846 ?_
  refine a_sld C0 hX hbl hbA (i + 1) hx1.1 hx1.2 dL_law_847 ?_
  refine a_callV _ 1 C0 em_LX (c_X5_whole l G rp.w rfl (ad := ad)) u_c_X5_whole u_m_L_100 u_im_X5_whole u_se_X5_whole u_in_X5 hy_X5_whole rfl (lt_b rfl) rfl (hRk rfl) rfl rfl (le_b rfl) dL_law_848 (k_i fun r848 u848 q848 => ?_)
  obtain ⟨rfl, T2, rfl⟩ := q848
  refine a_aload_n C0 3 dL_law_851 rfl rfl ?_
  refine a_aload_n C0 1 dL_law_852 rfl rfl ?_
  refine a_iload_n C0 0 dL_law_853 rfl rfl ?_
  refine a_iconst C0 1 dL_law_854 rfl ?_
  refine a_iadd C0 dL_law_855 ?_
  refine a_sld C0 hX hbl hbA (i + 1) hx1.1 hx1.2 dL_law_856 ?_
  refine a_callV _ 1 C0 em_LM (c_X6_whole l G rp hm rfl (ad := fun k => ad (54 + k))) u_c_X6_whole u_m_L_103 u_im_X6_whole u_se_X6_whole u_in_X6 hy_X6_whole rfl (lt_b rfl) rfl (hRk rfl) rfl rfl (le_b rfl) dL_law_857 (k_i fun r857 u857 q857 => ?_)
  obtain ⟨rfl, S2, X2, rfl, hX2, hS2⟩ := q857
  refine a_icmp_eq C0 1742 dL_law_860 rfl (fun h860 => ?_) (fun h860 => ?_)
  · exact kk _ _ _ _ _ _ _ _ _ _ _ _ (inv.tr hX2 hS2)
  · exact (h860 rfl).elim
set_option maxRecDepth 100000 in
set_option maxHeartbeats 4000000 in
theorem lc_21 (C0 : Cx p s m args meth c G A 68 ad cL_law RL 4) (hX : va_X b L xs s s.heap) (hbl : b < s.heap.size) (hbA : ¬ A b) (hxi : xi = nI i) (hi : i + 5 ≤ L) (hL : L ≤ 2560) (hmb : mb ≤ 61 * 600) (inv : INV mb O N K B R S H Z OM SM XM) (kk : ∀ (O : RW) (N K T B R S H Z : WM) (OM SM : RW) (XM : WM), INV (mb + 61) O N K B R S H Z OM SM XM → AW p l e room_1 s m args below meth c G A 68 ad (shL G ad) 4 600000 7302250 Q 1742 [(3, .int xi), (0, .ref b), (1, .ref (ad 0)), (2, .ref (ad 54))] [] (mkL (mkX O N K T B R S H Z) (mkM OM SM XM))) : AW p l e room_1 s m args below meth c G A 68 ad (shL G ad) 4 600000 7302250 Q 865 [(3, .int xi), (0, .ref b), (1, .ref (ad 0)), (2, .ref (ad 54))] [] (mkL (mkX O N K T B R S H Z) (mkM OM SM XM)) := by
  obtain ⟨⟨nT, mm, rp, hmm⟩, i4, iK, ⟨bn, tr⟩, ⟨cn, c6, c10, e13, rR⟩, rs, rh, dr⟩ := id inv
  have hm : mm + 61 < 2 ^ 31 := by omega
  have hx0 : IX xi (i + 0) L := IX.eqn hxi (by omega) (by omega)
  have hx1 : IX (xi + 1) (i + 1) L := IX.eqn (by rw [hxi, show (1 : Int32) = nI 1 from rfl, nI_add]) (by omega) (by omega)
  have hx2 : IX (xi + 2) (i + 2) L := IX.eqn (by rw [hxi, show (2 : Int32) = nI 2 from rfl, nI_add]) (by omega) (by omega)
  have hx3 : IX (xi + 3) (i + 3) L := IX.eqn (by rw [hxi, show (3 : Int32) = nI 3 from rfl, nI_add]) (by omega) (by omega)
  have hx4 : IX (xi + 4) (i + 4) L := IX.eqn (by rw [hxi, show (4 : Int32) = nI 4 from rfl, nI_add]) (by omega) (by omega)
  refine a_aload_n C0 2 dL_law_865 rfl rfl ?_
  refine a_aload_n C0 1 dL_law_866 rfl rfl ?_
  refine a_iload_n C0 0 dL_law_867 rfl rfl ?_
  refine a_iconst C0 1 dL_law_868 rfl ?_
  refine a_iadd C0 dL_law_869 ?_
  refine a_sld C0 hX hbl hbA (i + 1) hx1.1 hx1.2 dL_law_870 ?_
  refine a_callV _ 1 C0 em_LX (c_X5_home l G rp.w rfl (ad := ad)) u_c_X5_home u_m_L_104 u_im_X5_home u_se_X5_home u_in_X5 hy_X5_home rfl (lt_b rfl) rfl (hRk rfl) rfl rfl (le_b rfl) dL_law_871 (k_i fun r871 u871 q871 => ?_)
  obtain ⟨rfl, T2, rfl⟩ := q871
  refine a_aload_n C0 3 dL_law_874 rfl rfl ?_
  refine a_aload_n C0 1 dL_law_875 rfl rfl ?_
  refine a_iload_n C0 0 dL_law_876 rfl rfl ?_
  refine a_iconst C0 1 dL_law_877 rfl ?_
  refine a_iadd C0 dL_law_878 ?_
  refine a_sld C0 hX hbl hbA (i + 1) hx1.1 hx1.2 dL_law_879 ?_
  refine a_callV _ 1 C0 em_LM (c_X6_home l G rp hm rfl (ad := fun k => ad (54 + k))) u_c_X6_home u_m_L_107 u_im_X6_home u_se_X6_home u_in_X6 hy_X6_home rfl (lt_b rfl) rfl (hRk rfl) rfl rfl (le_b rfl) dL_law_880 (k_i fun r880 u880 q880 => ?_)
  obtain ⟨rfl, S2, X2, rfl, hX2, hS2⟩ := q880
  refine a_icmp_eq C0 1742 dL_law_883 rfl (fun h883 => ?_) (fun h883 => ?_)
  · exact kk _ _ _ _ _ _ _ _ _ _ _ _ (inv.tr hX2 hS2)
  · exact (h883 rfl).elim
set_option maxRecDepth 100000 in
set_option maxHeartbeats 4000000 in
theorem lc_22 (C0 : Cx p s m args meth c G A 68 ad cL_law RL 4) (hX : va_X b L xs s s.heap) (hbl : b < s.heap.size) (hbA : ¬ A b) (hxi : xi = nI i) (hi : i + 5 ≤ L) (hL : L ≤ 2560) (hmb : mb ≤ 61 * 600) (inv : INV mb O N K B R S H Z OM SM XM) (kk : ∀ (O : RW) (N K T B R S H Z : WM) (OM SM : RW) (XM : WM), INV (mb + 61) O N K B R S H Z OM SM XM → AW p l e room_1 s m args below meth c G A 68 ad (shL G ad) 4 600000 7302250 Q 1742 [(3, .int xi), (0, .ref b), (1, .ref (ad 0)), (2, .ref (ad 54))] [] (mkL (mkX O N K T B R S H Z) (mkM OM SM XM))) : AW p l e room_1 s m args below meth c G A 68 ad (shL G ad) 4 600000 7302250 Q 888 [(3, .int xi), (0, .ref b), (1, .ref (ad 0)), (2, .ref (ad 54))] [] (mkL (mkX O N K T B R S H Z) (mkM OM SM XM)) := by
  obtain ⟨⟨nT, mm, rp, hmm⟩, i4, iK, ⟨bn, tr⟩, ⟨cn, c6, c10, e13, rR⟩, rs, rh, dr⟩ := id inv
  have hm : mm + 61 < 2 ^ 31 := by omega
  have hx0 : IX xi (i + 0) L := IX.eqn hxi (by omega) (by omega)
  have hx1 : IX (xi + 1) (i + 1) L := IX.eqn (by rw [hxi, show (1 : Int32) = nI 1 from rfl, nI_add]) (by omega) (by omega)
  have hx2 : IX (xi + 2) (i + 2) L := IX.eqn (by rw [hxi, show (2 : Int32) = nI 2 from rfl, nI_add]) (by omega) (by omega)
  have hx3 : IX (xi + 3) (i + 3) L := IX.eqn (by rw [hxi, show (3 : Int32) = nI 3 from rfl, nI_add]) (by omega) (by omega)
  have hx4 : IX (xi + 4) (i + 4) L := IX.eqn (by rw [hxi, show (4 : Int32) = nI 4 from rfl, nI_add]) (by omega) (by omega)
  refine a_aload_n C0 2 dL_law_888 rfl rfl ?_
  refine a_aload_n C0 1 dL_law_889 rfl rfl ?_
  refine a_iload_n C0 0 dL_law_890 rfl rfl ?_
  refine a_iconst C0 1 dL_law_891 rfl ?_
  refine a_iadd C0 dL_law_892 ?_
  refine a_sld C0 hX hbl hbA (i + 1) hx1.1 hx1.2 dL_law_893 ?_
  refine a_aload_n C0 1 dL_law_894 rfl rfl ?_
  refine a_iload_n C0 0 dL_law_895 rfl rfl ?_
  refine a_iconst C0 2 dL_law_896 rfl ?_
  refine a_iadd C0 dL_law_897 ?_
  refine a_sld C0 hX hbl hbA (i + 2) hx2.1 hx2.2 dL_law_898 ?_
  refine a_callV _ 2 C0 em_LX (c_X5_reach l G rp.w rfl (ad := ad)) u_c_X5_reach u_m_L_108 u_im_X5_reach u_se_X5_reach u_in_X5 hy_X5_reach rfl (lt_b rfl) rfl (hRk rfl) rfl rfl (le_b rfl) dL_law_899 (k_i fun r899 u899 q899 => ?_)
  obtain ⟨rfl, T2, rfl⟩ := q899
  refine a_aload_n C0 3 dL_law_902 rfl rfl ?_
  refine a_aload_n C0 1 dL_law_903 rfl rfl ?_
  refine a_iload_n C0 0 dL_law_904 rfl rfl ?_
  refine a_iconst C0 1 dL_law_905 rfl ?_
  refine a_iadd C0 dL_law_906 ?_
  refine a_sld C0 hX hbl hbA (i + 1) hx1.1 hx1.2 dL_law_907 ?_
  refine a_aload_n C0 1 dL_law_908 rfl rfl ?_
  refine a_iload_n C0 0 dL_law_909 rfl rfl ?_
  refine a_iconst C0 2 dL_law_910 rfl ?_
  refine a_iadd C0 dL_law_911 ?_
  refine a_sld C0 hX hbl hbA (i + 2) hx2.1 hx2.2 dL_law_912 ?_
  refine a_callV _ 2 C0 em_LM (c_X6_reach l G rp hm rfl (ad := fun k => ad (54 + k))) u_c_X6_reach u_m_L_111 u_im_X6_reach u_se_X6_reach u_in_X6 hy_X6_reach rfl (lt_b rfl) rfl (hRk rfl) rfl rfl (le_b rfl) dL_law_913 (k_i fun r913 u913 q913 => ?_)
  obtain ⟨rfl, S2, X2, rfl, hX2, hS2⟩ := q913
  refine a_icmp_eq C0 1742 dL_law_916 rfl (fun h916 => ?_) (fun h916 => ?_)
  · exact kk _ _ _ _ _ _ _ _ _ _ _ _ (inv.tr hX2 hS2)
  · exact (h916 rfl).elim
set_option maxRecDepth 100000 in
set_option maxHeartbeats 4000000 in
theorem lc_23 (C0 : Cx p s m args meth c G A 68 ad cL_law RL 4) (hX : va_X b L xs s s.heap) (hbl : b < s.heap.size) (hbA : ¬ A b) (hxi : xi = nI i) (hi : i + 5 ≤ L) (hL : L ≤ 2560) (hmb : mb ≤ 61 * 600) (inv : INV mb O N K B R S H Z OM SM XM) (kk : ∀ (O : RW) (N K T B R S H Z : WM) (OM SM : RW) (XM : WM), INV (mb + 61) O N K B R S H Z OM SM XM → AW p l e room_1 s m args below meth c G A 68 ad (shL G ad) 4 600000 7302250 Q 1742 [(3, .int xi), (0, .ref b), (1, .ref (ad 0)), (2, .ref (ad 54))] [] (mkL (mkX O N K T B R S H Z) (mkM OM SM XM))) : AW p l e room_1 s m args below meth c G A 68 ad (shL G ad) 4 600000 7302250 Q 921 [(3, .int xi), (0, .ref b), (1, .ref (ad 0)), (2, .ref (ad 54))] [] (mkL (mkX O N K T B R S H Z) (mkM OM SM XM)) := by
  obtain ⟨⟨nT, mm, rp, hmm⟩, i4, iK, ⟨bn, tr⟩, ⟨cn, c6, c10, e13, rR⟩, rs, rh, dr⟩ := id inv
  have hm : mm + 61 < 2 ^ 31 := by omega
  have hx0 : IX xi (i + 0) L := IX.eqn hxi (by omega) (by omega)
  have hx1 : IX (xi + 1) (i + 1) L := IX.eqn (by rw [hxi, show (1 : Int32) = nI 1 from rfl, nI_add]) (by omega) (by omega)
  have hx2 : IX (xi + 2) (i + 2) L := IX.eqn (by rw [hxi, show (2 : Int32) = nI 2 from rfl, nI_add]) (by omega) (by omega)
  have hx3 : IX (xi + 3) (i + 3) L := IX.eqn (by rw [hxi, show (3 : Int32) = nI 3 from rfl, nI_add]) (by omega) (by omega)
  have hx4 : IX (xi + 4) (i + 4) L := IX.eqn (by rw [hxi, show (4 : Int32) = nI 4 from rfl, nI_add]) (by omega) (by omega)
  refine a_aload_n C0 2 dL_law_921 rfl rfl ?_
  refine a_aload_n C0 1 dL_law_922 rfl rfl ?_
  refine a_iload_n C0 0 dL_law_923 rfl rfl ?_
  refine a_iconst C0 1 dL_law_924 rfl ?_
  refine a_iadd C0 dL_law_925 ?_
  refine a_sld C0 hX hbl hbA (i + 1) hx1.1 hx1.2 dL_law_926 ?_
  refine a_aload_n C0 1 dL_law_927 rfl rfl ?_
  refine a_iload_n C0 0 dL_law_928 rfl rfl ?_
  refine a_iconst C0 2 dL_law_929 rfl ?_
  refine a_iadd C0 dL_law_930 ?_
  refine a_sld C0 hX hbl hbA (i + 2) hx2.1 hx2.2 dL_law_931 ?_
  refine a_aload_n C0 1 dL_law_932 rfl rfl ?_
  refine a_iload_n C0 0 dL_law_933 rfl rfl ?_
  refine a_iconst C0 3 dL_law_934 rfl ?_
  refine a_iadd C0 dL_law_935 ?_
  refine a_sld C0 hX hbl hbA (i + 3) hx3.1 hx3.2 dL_law_936 ?_
  refine a_callV _ 3 C0 em_LX (c_X5_friendFor l G rp.w rfl (ad := ad)) u_c_X5_friendFor u_m_L_112 u_im_X5_friendFor u_se_X5_friendFor u_in_X5 hy_X5_friendFor rfl (lt_b rfl) rfl (hRk rfl) rfl rfl (le_b rfl) dL_law_937 (k_i fun r937 u937 q937 => ?_)
  obtain ⟨rfl, T2, rfl⟩ := q937
  refine a_aload_n C0 3 dL_law_940 rfl rfl ?_
  refine a_aload_n C0 1 dL_law_941 rfl rfl ?_
  refine a_iload_n C0 0 dL_law_942 rfl rfl ?_
  refine a_iconst C0 1 dL_law_943 rfl ?_
  refine a_iadd C0 dL_law_944 ?_
  refine a_sld C0 hX hbl hbA (i + 1) hx1.1 hx1.2 dL_law_945 ?_
  refine a_aload_n C0 1 dL_law_946 rfl rfl ?_
  refine a_iload_n C0 0 dL_law_947 rfl rfl ?_
  refine a_iconst C0 2 dL_law_948 rfl ?_
  refine a_iadd C0 dL_law_949 ?_
  refine a_sld C0 hX hbl hbA (i + 2) hx2.1 hx2.2 dL_law_950 ?_
  refine a_aload_n C0 1 dL_law_951 rfl rfl ?_
  refine a_iload_n C0 0 dL_law_952 rfl rfl ?_
  refine a_iconst C0 3 dL_law_953 rfl ?_
  refine a_iadd C0 dL_law_954 ?_
  refine a_sld C0 hX hbl hbA (i + 3) hx3.1 hx3.2 dL_law_955 ?_
  refine a_callV _ 3 C0 em_LM (c_X6_friendFor l G rp hm rfl (ad := fun k => ad (54 + k))) u_c_X6_friendFor u_m_L_115 u_im_X6_friendFor u_se_X6_friendFor u_in_X6 hy_X6_friendFor rfl (lt_b rfl) rfl (hRk rfl) rfl rfl (le_b rfl) dL_law_956 (k_i fun r956 u956 q956 => ?_)
  obtain ⟨rfl, S2, X2, rfl, hX2, hS2⟩ := q956
  refine a_icmp_eq C0 1742 dL_law_959 rfl (fun h959 => ?_) (fun h959 => ?_)
  · exact kk _ _ _ _ _ _ _ _ _ _ _ _ (inv.tr hX2 hS2)
  · exact (h959 rfl).elim
end LC
