section STR
variable {p : Program} {l : Launch} {e : Env} {R : Room} {s : State} {m : MethodId} {args : Array Value} {below : List Frame} {meth : Method} {c : Code} {G : GE} {A : Nat → Prop} {N : Nat} {ad : Nat → Nat} {sh : SH} {nL cs sl : Nat} {Q : State → Prop} {cc : ByteArray} {own : String} {pc : Nat} {ls : LV} {st : List Value} {M : WM}
theorem a_ldcS (C0 : Cx p s m args meth c G A N ad cc RX4 nL) (i : Nat) (hi : i < 16) (d : decode cc pc = .ok (.ldc (sk_idx.getD i 0), 2)) (k : AW p l e R s m args below meth c G A N ad sh nL cs sl Q (pc + 2) ls (.ref (G.2.2.1 i) :: st) M) : AW p l e R s m args below meth c G A N ad sh nL cs sl Q pc ls st M :=
  fun H locs la hP hS hl => va_ldcS C0.1 C0.2.1 C0.oo (C0.nw.2.2.2.2.2 i hi) d (k H locs la hP hS hl)
theorem a_gstv (C0 : Cx p s m args meth c G A N ad cc RJ0 nL) (i : Nat) (hi : i < 16) (d : decode cc pc = .ok (.getfield 9, 3)) (k : AW p l e R s m args below meth c G A N ad sh nL cs sl Q (pc + 3) ls (.ref (G.2.2.2.1 i) :: st) M) : AW p l e R s m args below meth c G A N ad sh nL cs sl Q pc ls (.ref (G.2.2.1 i) :: st) M :=
  fun H locs la hP hS hl => vk_getf C0.1 C0.2.1 (C0.sf.2.2.2.1 i hi).2.2.1 hS C0.oo (C0.ww _ u_f_J0_9) (fun _ h => h) d (k H locs la hP hS hl)
theorem a_gstc (C0 : Cx p s m args meth c G A N ad cc RJ0 nL) (i : Nat) (hi : i < 16) (d : decode cc pc = .ok (.getfield 15, 3)) (k : AW p l e R s m args below meth c G A N ad sh nL cs sl Q (pc + 3) ls (.int 0 :: st) M) : AW p l e R s m args below meth c G A N ad sh nL cs sl Q pc ls (.ref (G.2.2.1 i) :: st) M :=
  fun H locs la hP hS hl => vk_getf C0.1 C0.2.1 (C0.sf.2.2.2.1 i hi).2.1 hS C0.oo (C0.ww _ u_f_J0_15) (fun _ h => h) d (k H locs la hP hS hl)
theorem a_getsC (C0 : Cx p s m args meth c G A N ad cc RJ0 nL) (d : decode cc pc = .ok (.getstatic 38, 3)) (k : AW p l e R s m args below meth c G A N ad sh nL cs sl Q (pc + 3) ls (.int 1 :: st) M) : AW p l e R s m args below meth c G A N ad sh nL cs sl Q pc ls st M :=
  fun H locs la hP hS hl => va_gets C0.1 C0.2.1 C0.sf.2.1 hS C0.oo (C0.ww _ u_f_J0_38) (fun _ h => h) d (k H locs la hP hS hl)
theorem a_getsF (C0 : Cx p s m args meth c G A N ad cc RJ0 nL) (d : decode cc pc = .ok (.getstatic 1053, 3)) (k : AW p l e R s m args below meth c G A N ad sh nL cs sl Q (pc + 3) ls (.null :: st) M) (k2 : ∀ t : Nat, AW p l e R s m args below meth c G A N ad sh nL cs sl Q (pc + 3) ls (.ref t :: st) M) : AW p l e R s m args below meth c G A N ad sh nL cs sl Q pc ls st M := by
  intro H locs la hP hS hl
  rcases C0.sf.2.2.1 with h | ⟨t, h⟩
  · exact va_gets C0.1 C0.2.1 h hS C0.oo (C0.ww _ u_f_J0_1053) (fun _ h => h) d (k H locs la hP hS hl)
  · exact va_gets C0.1 C0.2.1 h hS C0.oo (C0.ww _ u_f_J0_1053) (fun _ h => h) d (k2 t H locs la hP hS hl)
theorem a_tlS (C0 : Cx p s m args meth c G A N ad cc own nL) (i : Nat) (hi : i < 16) (d : decode cc pc = .ok (.arraylength, 1)) (k : AW p l e R s m args below meth c G A N ad sh nL cs sl Q (pc + 1) ls (.int (Int32.ofNat (sk_len.getD i 0)) :: st) M) : AW p l e R s m args below meth c G A N ad sh nL cs sl Q pc ls (.ref (G.2.2.2.1 i) :: st) M :=
  fun H locs la hP hS hl => va_tlen C0.1 C0.2.1 (C0.sf.2.2.2.1 i hi).2.2.2 hS rfl d (k H locs la hP hS hl)
theorem a_tbS (C0 : Cx p s m args meth c G A N ad cc own nL) (i j : Nat) (hi : i < 16) {x : Int32} (hin : vp_in x (sk_len.getD i 0)) (hj : x.toNatClampNeg = j) (d : decode cc pc = .ok (.baload, 1)) (k : AW p l e R s m args below meth c G A N ad sh nL cs sl Q (pc + 1) ls (.int ((sk_byt.getD i []).getD j 0) :: st) M) : AW p l e R s m args below meth c G A N ad sh nL cs sl Q pc ls (.int x :: .ref (G.2.2.2.1 i) :: st) M :=
  fun H locs la hP hS hl => va_tb C0.1 C0.2.1 (C0.sf.2.2.2.1 i hi).2.2.2 hS hin (by rw [hj]) d (k H locs la hP hS hl)
theorem a_callVs {N' : Nat} {ad' : Nat → Nat} {sh' : SH} {Mc : WM} {F : WM → WM} {y : MethodName} {cb : ByteArray} {maxL k' index : Nat} {ret : Option FieldType} {post : Option Value → WM → Prop} {As : List Value} (rest : List Value) (n : Nat) (C0 : Cx p s m args meth c G A N ad cc own nL) (i : Nat) (hi : i < 16) (hE : EM N N' ad ad' sh sh' M Mc F) (hC : CT l G y cb maxL ret k' (.ref (G.2.2.1 i) :: As) N' ad' sh' Mc post)
    (hcode : Cond.code y cb maxL ret ∈ wg) (hlink : Cond.methodLink own index y ∈ wg) (him : Cond.instanceMethod y ∈ wg) (hse : Cond.selects RJ0 y y ∈ wg) (hini : Cond.initialized RJ0 ∈ wg) (hy : y.cls = RJ0 ∧ y.cls ≠ "java/lang/invoke/MethodHandle" ∧ y.cls ≠ "java/lang/invoke/VarHandle" ∧ (parseMethodDescriptor y.desc).map (fun d => d.parameters.length) = some n)
    (hR : k' + 1 ≤ R.frames ∧ 8 + (maxL + 11) + 64 * k' ≤ R.locals ∧ cs ≤ R.cells ∧ sl ≤ R.slots) (hn : As.length = n) (hst : st = As.reverse ++ .ref (G.2.2.1 i) :: rest) (hW : (rest.map fun v => v.category).sum ≤ 8) (d : decode cc pc = .ok (.invokevirtual index, 3)) (kk : ∀ v u, post v u → AW p l e R s m args below meth c G A N ad sh nL cs sl Q (pc + 3) ls (v.toList ++ rest) (F u)) : AW p l e R s m args below meth c G A N ad sh nL cs sl Q pc ls st M := by
  intro H locs la hP hS hl
  obtain ⟨f1, f2⟩ := ct_pre C0 hE hP hS (.ref (G.2.2.1 i) :: As)
  have hrc : ∃ cell : Cell, H[G.2.2.1 i]? = some cell ∧ cell.vm.isStatics = false ∧ s.vm.findClass RJ0 = some cell.cls := vk_recv C0.sf.2.2.2 hi hS
  refine a_fin (va_runV (Ts := wg) (C := RJ0) (rm := rmk k') (As := As) (rest := rest) ⟨C0.1, C0.2.1, C0.2.2.1, C0.oo, C0.ww⟩ (hC H.size) (cwV n C0.ww (fun w hw => ?_) rfl rfl rfl hy ⟨hR.1, hR.2.1⟩) ⟨f1, hrc, f2⟩ rfl hn hl.1 hst (lv_room hW) d ⟨by omega, by omega⟩) hS (em_free hE C0.2.2.2.2.2.2.2.2.1 C0.2.2.2.2.2.2.2.2.2.1 hS.1) (fun v u H1 locs1 hp hP1 hk hS1 => ?_)
  · rcases List.mem_append.mp hw with h | h
    · simp only [List.mem_cons, List.not_mem_nil, or_false] at h
      rcases h with rfl | rfl | rfl | rfl
      · exact ⟨hlink, good_of_word (wg_good _ hlink)⟩
      · exact ⟨him, good_of_word (wg_good _ him)⟩
      · exact ⟨hse, good_of_word (wg_good _ hse)⟩
      · exact ⟨hini, good_of_word (wg_good _ hini)⟩
    · exact goodIn_wsm hcode w h
  · exact kk v u hp H1 locs1 la (em_back hE C0.2.2.2.2.2.2.2.1 hP hP1 hk) hS1 hl
end STR
def chS (i j : Nat) : Int32 := (sk_byt.getD i []).getD j 0
def lnS (i : Nat) : Nat := sk_len.getD i 0
theorem lnS_le : ∀ i, i < 16 → lnS i ≤ 7 := by decide +kernel

set_option maxRecDepth 100000 in
set_option maxHeartbeats 4000000 in
theorem c_J0_coder_7d493 (l : Launch) (G : GE) {ad : Nat → Nat} {M : WM} {i : Nat} (hi : i < 16) : CT l G yJ0_coder_7d493 cJ0_coder_7d493 1 (some .byte) 0 [.ref (G.2.2.1 i)] 0 ad sh0 M (PI (fun r u => r = 0 ∧ u = M)) := by
  refine CT.of (own := RJ0) rfl rfl (le_b rfl) fun p e s m args below meth c A C0 hr => ?_
  refine AW.lo (ls2 := [(0, _)]) rfl ?_
  refine a_getsC C0 dJ0_coder_7d493_0 ?_
  refine a_if_eq C0 13 dJ0_coder_7d493_3 rfl (fun h3 => ?_) (fun h3 => ?_)
  · exact absurd h3 (by decide)
  · refine a_aload_n C0 0 dJ0_coder_7d493_6 rfl rfl ?_
    refine a_gstc C0 i hi dJ0_coder_7d493_7 ?_
    refine a_goto C0 14 dJ0_coder_7d493_10 rfl ?_
    refine a_zret C0 hr rfl dJ0_coder_7d493_14 ?_
    exact rt_ rfl
set_option maxRecDepth 100000 in
set_option maxHeartbeats 4000000 in
theorem c_J0_length_8abf5 (l : Launch) (G : GE) {ad : Nat → Nat} {M : WM} {i : Nat} (hi : i < 16) : CT l G yJ0_length_8abf5 cJ0_length_8abf5 1 (some .int) 1 [.ref (G.2.2.1 i)] 0 ad sh0 M (PI (fun r u => r = nI (lnS i) ∧ u = M)) := by
  refine CT.of (own := RJ0) rfl rfl (le_b rfl) fun p e s m args below meth c A C0 hr => ?_
  refine AW.lo (ls2 := [(0, _)]) rfl ?_
  refine a_aload_n C0 0 dJ0_length_8abf5_0 rfl rfl ?_
  refine a_gstv C0 i hi dJ0_length_8abf5_1 ?_
  refine a_tlS C0 i hi dJ0_length_8abf5_4 ?_
  refine a_aload_n C0 0 dJ0_length_8abf5_5 rfl rfl ?_
  refine a_callVs _ 0 C0 i hi EM.z (c_J0_coder_7d493 l G hi) u_c_J0_coder_7d493 u_m_J0_335 u_im_J0_coder_7d493 u_se_J0_coder_7d493 u_in_J0 hy_J0_coder_7d493 (hRk rfl) rfl rfl (le_b rfl) dJ0_length_8abf5_6 (k_ro EM.z ?_)
  refine a_ishr C0 dJ0_length_8abf5_9 ?_
  refine a_iret C0 hr dJ0_length_8abf5_10 ?_
  refine rt_ ?_
  exact sb_shr0 _
set_option maxRecDepth 100000 in
set_option maxHeartbeats 4000000 in
theorem c_J0_isLatin1_aae02 (l : Launch) (G : GE) {ad : Nat → Nat} {M : WM} {i : Nat} (hi : i < 16) : CT l G yJ0_isLatin1_aae02 cJ0_isLatin1_aae02 1 (some .boolean) 0 [.ref (G.2.2.1 i)] 0 ad sh0 M (PI (fun r u => r = bI True ∧ u = M)) := by
  refine CT.of (own := RJ0) rfl rfl (le_b rfl) fun p e s m args below meth c A C0 hr => ?_
  refine AW.lo (ls2 := [(0, _)]) rfl ?_
  refine a_getsC C0 dJ0_isLatin1_aae02_0 ?_
  refine a_if_eq C0 17 dJ0_isLatin1_aae02_3 rfl (fun h3 => ?_) (fun h3 => ?_)
  · exact absurd h3 (by decide)
  · refine a_aload_n C0 0 dJ0_isLatin1_aae02_6 rfl rfl ?_
    refine a_gstc C0 i hi dJ0_isLatin1_aae02_7 ?_
    refine a_if_ne C0 17 dJ0_isLatin1_aae02_10 rfl (fun h10 => ?_) (fun h10 => ?_)
    · exact absurd rfl h10
    · refine a_iconst C0 1 dJ0_isLatin1_aae02_13 rfl ?_
      refine a_goto C0 18 dJ0_isLatin1_aae02_14 rfl ?_
      refine a_zret C0 hr rfl dJ0_isLatin1_aae02_18 ?_
      exact rt_ rfl
set_option maxRecDepth 100000 in
set_option maxHeartbeats 4000000 in
theorem c_J3_checkIndex_8e157_n (l : Launch) (G : GE) {ad : Nat → Nat} {M : WM} {x y : Int32} {t : Nat} (hx : 0 ≤ x ∧ x < y) : CT l G yJ3_checkIndex_8e157 cJ3_checkIndex_8e157 3 (some .int) 0 [.int x, .int y, .null] 0 ad sh0 M (PI (fun r u => r = x ∧ u = M)) := by
  refine CT.of (own := RJ3) rfl rfl (le_b rfl) fun p e s m args below meth c A C0 hr => ?_
  refine AW.lo (ls2 := [(0, _), (1, _), (2, _)]) rfl ?_
  refine a_iload_n C0 0 dJ3_checkIndex_8e157_0 rfl rfl ?_
  refine a_if_lt C0 9 dJ3_checkIndex_8e157_1 rfl (fun h1 => ?_) (fun h1 => ?_)
  · exact absurd h1 (Int32.not_lt.mpr hx.1)
  · refine a_iload_n C0 0 dJ3_checkIndex_8e157_4 rfl rfl ?_
    refine a_iload_n C0 1 dJ3_checkIndex_8e157_5 rfl rfl ?_
    refine a_icmp_lt C0 16 dJ3_checkIndex_8e157_6 rfl (fun h6 => ?_) (fun h6 => ?_)
    · refine a_iload_n C0 0 dJ3_checkIndex_8e157_16 rfl rfl ?_
      refine a_iret C0 hr dJ3_checkIndex_8e157_17 ?_
      exact rt_ rfl
    · exact absurd hx.2 h6
set_option maxRecDepth 100000 in
set_option maxHeartbeats 4000000 in
theorem c_J3_checkIndex_8e157_r (l : Launch) (G : GE) {ad : Nat → Nat} {M : WM} {x y : Int32} {t : Nat} (hx : 0 ≤ x ∧ x < y) : CT l G yJ3_checkIndex_8e157 cJ3_checkIndex_8e157 3 (some .int) 0 [.int x, .int y, .ref t] 0 ad sh0 M (PI (fun r u => r = x ∧ u = M)) := by
  refine CT.of (own := RJ3) rfl rfl (le_b rfl) fun p e s m args below meth c A C0 hr => ?_
  refine AW.lo (ls2 := [(0, _), (1, _), (2, _)]) rfl ?_
  refine a_iload_n C0 0 dJ3_checkIndex_8e157_0 rfl rfl ?_
  refine a_if_lt C0 9 dJ3_checkIndex_8e157_1 rfl (fun h1 => ?_) (fun h1 => ?_)
  · exact absurd h1 (Int32.not_lt.mpr hx.1)
  · refine a_iload_n C0 0 dJ3_checkIndex_8e157_4 rfl rfl ?_
    refine a_iload_n C0 1 dJ3_checkIndex_8e157_5 rfl rfl ?_
    refine a_icmp_lt C0 16 dJ3_checkIndex_8e157_6 rfl (fun h6 => ?_) (fun h6 => ?_)
    · refine a_iload_n C0 0 dJ3_checkIndex_8e157_16 rfl rfl ?_
      refine a_iret C0 hr dJ3_checkIndex_8e157_17 ?_
      exact rt_ rfl
    · exact absurd hx.2 h6
set_option maxRecDepth 100000 in
set_option maxHeartbeats 4000000 in
theorem c_J0_checkIndex_df160 (l : Launch) (G : GE) {ad : Nat → Nat} {M : WM} {x y : Int32} (hx : 0 ≤ x ∧ x < y) : CT l G yJ0_checkIndex_df160 cJ0_checkIndex_df160 2 none 1 [.int x, .int y] 0 ad sh0 M (PV (fun u => u = M)) := by
  refine CT.of (own := RJ0) rfl rfl (le_b rfl) fun p e s m args below meth c A C0 hr => ?_
  refine AW.lo (ls2 := [(0, _), (1, _)]) rfl ?_
  refine a_iload_n C0 0 dJ0_checkIndex_df160_0 rfl rfl ?_
  refine a_iload_n C0 1 dJ0_checkIndex_df160_1 rfl rfl ?_
  refine a_getsF C0 dJ0_checkIndex_df160_2 ?_ (fun tF => ?_)
  · refine a_callS _ 3 C0 EM.z (c_J3_checkIndex_8e157_n l G (t := 0) hx) u_c_J3_checkIndex_8e157 u_m_J0_1059 u_st_J3_checkIndex_8e157 u_in_J3 hy_J3_checkIndex_8e157.2 (hRk rfl) rfl rfl (le_b rfl) dJ0_checkIndex_df160_5 (k_ro EM.z ?_)
    refine a_pop C0 dJ0_checkIndex_df160_8 rfl ?_
    refine a_vret C0 hr dJ0_checkIndex_df160_9 ?_
    exact rv_ rfl
  · refine a_callS _ 3 C0 EM.z (c_J3_checkIndex_8e157_r l G (t := tF) hx) u_c_J3_checkIndex_8e157 u_m_J0_1059 u_st_J3_checkIndex_8e157 u_in_J3 hy_J3_checkIndex_8e157.2 (hRk rfl) rfl rfl (le_b rfl) dJ0_checkIndex_df160_5 (k_ro EM.z ?_)
    refine a_pop C0 dJ0_checkIndex_df160_8 rfl ?_
    refine a_vret C0 hr dJ0_checkIndex_df160_9 ?_
    exact rv_ rfl

theorem ch_ok : ∀ i, i < 16 → ∀ j, j < lnS i → (((chS i j) &&& 255).toUInt32 % 65536).toInt32 = chS i j ∧ narrow .char (.int (((chS i j) &&& 255).toUInt32 % 65536).toInt32) = .int (((chS i j) &&& 255).toUInt32 % 65536).toInt32 := by decide +kernel

set_option maxRecDepth 100000 in
set_option maxHeartbeats 4000000 in
theorem c_J1_charAt_3b067 (l : Launch) (G : GE) {ad : Nat → Nat} {M : WM} {i j : Nat} {x : Int32} (hi : i < 16) (hx : IX x j (lnS i)) : CT l G yJ1_charAt_3b067 cJ1_charAt_3b067 2 (some .char) 2 [.ref (G.2.2.2.1 i), .int x] 0 ad sh0 M (PI (fun r u => r = chS i j ∧ u = M)) := by
  refine CT.of (own := RJ1) rfl rfl (le_b rfl) fun p e s m args below meth c A C0 hr => ?_
  refine AW.lo (ls2 := [(0, _), (1, _)]) rfl ?_
  refine a_iload_n C0 1 dJ1_charAt_3b067_0 rfl rfl ?_
  refine a_aload_n C0 0 dJ1_charAt_3b067_1 rfl rfl ?_
  refine a_tlS C0 i hi dJ1_charAt_3b067_2 ?_
  refine a_callS _ 2 C0 EM.z (c_J0_checkIndex_df160 l G (by have h1 := hx.lt; have h2 := lnS_le i hi; rw [hx.eq (Nat.lt_of_le_of_lt h2 (by decide))]; exact ⟨nI_pos' (by omega), nI_lt h1 (Nat.lt_of_le_of_lt h2 (by decide))⟩)) u_c_J0_checkIndex_df160 u_m_J1_9 u_st_J0_checkIndex_df160 u_in_J0 hy_J0_checkIndex_df160.2 (hRk rfl) rfl rfl (le_b rfl) dJ1_charAt_3b067_3 (k_vo ?_)
  refine a_aload_n C0 0 dJ1_charAt_3b067_6 rfl rfl ?_
  refine a_iload_n C0 1 dJ1_charAt_3b067_7 rfl rfl ?_
  refine a_tbS C0 i _ hi hx.1 hx.2 dJ1_charAt_3b067_8 ?_
  refine a_sipush C0 255 dJ1_charAt_3b067_9 rfl ?_
  refine a_iand C0 dJ1_charAt_3b067_12 ?_
  refine a_i2c C0 dJ1_charAt_3b067_13 ?_
  refine a_zret C0 hr (ch_ok i hi j hx.lt).2 dJ1_charAt_3b067_14 ?_
  exact rt_ (ch_ok i hi j hx.lt).1
theorem ch_nar : ∀ i, i < 16 → ∀ j, j < lnS i → narrow .char (.int (chS i j)) = .int (chS i j) := by decide +kernel
set_option maxRecDepth 100000 in
set_option maxHeartbeats 4000000 in
theorem c_J0_charAt_5068e (l : Launch) (G : GE) {ad : Nat → Nat} {M : WM} {i j : Nat} {x : Int32} (hi : i < 16) (hx : IX x j (lnS i)) : CT l G yJ0_charAt_5068e cJ0_charAt_5068e 2 (some .char) 3 [.ref (G.2.2.1 i), .int x] 0 ad sh0 M (PI (fun r u => r = chS i j ∧ u = M)) := by
  refine CT.of (own := RJ0) rfl rfl (le_b rfl) fun p e s m args below meth c A C0 hr => ?_
  refine AW.lo (ls2 := [(0, _), (1, _)]) rfl ?_
  refine a_aload_n C0 0 dJ0_charAt_5068e_0 rfl rfl ?_
  refine a_callVs _ 0 C0 i hi EM.z (c_J0_isLatin1_aae02 l G hi) u_c_J0_isLatin1_aae02 u_m_J0_492 u_im_J0_isLatin1_aae02 u_se_J0_isLatin1_aae02 u_in_J0 hy_J0_isLatin1_aae02 (hRk rfl) rfl rfl (le_b rfl) dJ0_charAt_5068e_1 (k_ro EM.z ?_)
  refine a_if_eqb C0 16 dJ0_charAt_5068e_4 rfl (fun h4 => ?_) (fun h4 => ?_)
  · exact absurd trivial h4
  · refine a_aload_n C0 0 dJ0_charAt_5068e_7 rfl rfl ?_
    refine a_gstv C0 i hi dJ0_charAt_5068e_8 ?_
    refine a_iload_n C0 1 dJ0_charAt_5068e_11 rfl rfl ?_
    refine a_callS _ 2 C0 EM.z (c_J1_charAt_3b067 l G hi hx) u_c_J1_charAt_3b067 u_m_J0_495 u_st_J1_charAt_3b067 u_in_J1 hy_J1_charAt_3b067.2 (hRk rfl) rfl rfl (le_b rfl) dJ0_charAt_5068e_12 (k_ro EM.z ?_)
    refine a_zret C0 hr (ch_nar i hi j hx.lt) dJ0_charAt_5068e_15 ?_
    exact rt_ rfl

/-! the Tape: 0 it (1 count, 2 found, 3 start, 4 end), 1 bytes -/
def TS (D : WM) (n e : Nat) : Prop := D 0 1 = nI n ∧ n ≤ 200 ∧ D 0 4 = nI e ∧ e ≤ n
def skB (b : Nat → Int32) (n : Nat) : Nat → Nat → Nat
  | 0, s => s
  | f + 1, s => if s < n ∧ b s = 32 then skB b n f (s + 1) else s
def spB (b : Nat → Int32) (n : Nat) (lo hi : Int32) : Nat → Nat → Nat
  | 0, s => s
  | f + 1, s => if s < n ∧ lo ≤ b s ∧ b s ≤ hi then spB b n lo hi f (s + 1) else s
def tokK (b : Nat → Int32) (n s : Nat) : Nat := if n ≤ s then 0 else if 97 ≤ b s ∧ b s ≤ 122 then 1 else if 48 ≤ b s ∧ b s ≤ 57 then 2 else 3
def tokE (b : Nat → Int32) (n s : Nat) : Nat := if n ≤ s then s else if 97 ≤ b s ∧ b s ≤ 122 then spB b n 97 122 (n - s) s else if 48 ≤ b s ∧ b s ≤ 57 then spB b n 48 57 (n - s) s else s + 1
def setB (D : WM) (k s e : Nat) : WM := fun c => match c with
  | 0 => fun j => if j = 2 then nI k else if j = 3 then nI s else if j = 4 then nI e else D 0 j
  | c + 1 => D (c + 1)
def advB (D : WM) (n e : Nat) : WM := setB D (tokK (D 1) n (skB (D 1) n (n - e) e)) (skB (D 1) n (n - e) e) (tokE (D 1) n (skB (D 1) n (n - e) e))
theorem skB_le (b : Nat → Int32) (n : Nat) : ∀ f s, s ≤ n → s ≤ skB b n f s ∧ skB b n f s ≤ n
  | 0, s, h => ⟨Nat.le_refl _, h⟩
  | f + 1, s, h => by
    unfold skB
    split
    · next h1 =>
      have := skB_le b n f (s + 1) h1.1
      exact ⟨by omega, this.2⟩
    · exact ⟨Nat.le_refl _, h⟩
theorem spB_le (b : Nat → Int32) (n : Nat) (lo hi : Int32) : ∀ f s, s ≤ n → s ≤ spB b n lo hi f s ∧ spB b n lo hi f s ≤ n
  | 0, s, h => ⟨Nat.le_refl _, h⟩
  | f + 1, s, h => by
    unfold spB
    split
    · next h1 =>
      have := spB_le b n lo hi f (s + 1) h1.1
      exact ⟨by omega, this.2⟩
    · exact ⟨Nat.le_refl _, h⟩
theorem eqc_l {a b : va_E} (h : a = b) : EqC a b := Or.inl h
theorem nI_le200 {x y : Int32} {a b : Nat} (hx : x = nI a) (hy : y = nI b) (ha : a ≤ 200) (hb : b ≤ 200) : (y ≤ x ↔ b ≤ a) ∧ (x < y ↔ a < b) := by
  subst hx; subst hy
  exact ⟨nI_leI (by omega) (by omega), nI_ltI (by omega) (by omega)⟩
def appB (D : WM) (n : Nat) (v : Int32) : WM := up2 (up2 D 1 n v.toInt8.toInt32) 0 1 (D 0 1 + 1)

set_option maxRecDepth 100000 in
set_option maxHeartbeats 4000000 in
theorem c_X4_append (l : Launch) (G : GE) {ad : Nat → Nat} {M : WM} {v : Int32} {n : Nat} (hx : IX (M 0 1) n 200) : CT l G yX4_append cX4_append 2 none 0 [.ref (ad 0), .int v] 2 ad (shB G ad) M (PV (fun u => u = appB M n v)) := by
  refine CT.of (own := RX4) rfl rfl (le_b rfl) fun p e s m args below meth c A C0 hr => ?_
  refine AW.lo (ls2 := [(0, _), (1, _)]) rfl ?_
  refine a_aload_n C0 0 dX4_append_0 rfl rfl ?_
  refine g_X4_9 C0 (lt_b rfl) rfl rfl dX4_append_1 ?_
  refine a_aload_n C0 0 dX4_append_4 rfl rfl ?_
  refine g_X4_19 C0 (lt_b rfl) rfl rfl dX4_append_5 ?_
  refine a_iload_n C0 1 dX4_append_8 rfl rfl ?_
  refine a_bast C0 _ (lt_b rfl) (fun _ => rfl) hx.1 hx.2 dX4_append_9 ?_
  refine a_aload_n C0 0 dX4_append_10 rfl rfl ?_
  refine a_dup C0 dX4_append_11 rfl ?_
  refine g_X4_19 C0 (lt_b rfl) rfl rfl dX4_append_12 ?_
  refine a_iconst C0 1 dX4_append_15 rfl ?_
  refine a_iadd C0 dX4_append_16 ?_
  refine p_X4_19 C0 (lt_b rfl) rfl (lt_b rfl) rfl rfl dX4_append_17 ?_
  refine a_vret C0 hr dX4_append_20 ?_
  exact rv_ rfl
set_option maxRecDepth 100000 in
set_option maxHeartbeats 4000000 in
theorem c_X4_goBehind (l : Launch) (G : GE) {ad : Nat → Nat} {M : WM} {lo hi : Int32} {n e1 : Nat} (h0 : TS M n e1) : CT l G yX4_goBehind cX4_goBehind 3 none 0 [.ref (ad 0), .int lo, .int hi] 2 ad (shB G ad) M (PV (fun u => u = up2 M 0 4 (nI (spB (M 1) n lo hi (n - e1) e1)))) := by
  refine CT.of (own := RX4) rfl rfl (le_b rfl) fun p e s m args below meth c A C0 hr => ?_
  refine AW.lo (ls2 := [(0, _), (1, _), (2, _)]) rfl ?_
  have lp : ∀ (n2 : Nat) (i : Nat) (M1 : WM), n - i < n2 → (i ≤ n) → (∀ j, j ≠ 4 → M1 0 j = M 0 j) → (M1 1 = M 1) → (M1 0 4 = nI i) → (spB (M 1) n lo hi (n - i) i = spB (M 1) n lo hi (n - e1) e1) → AW p l e (rmk 0) s m args below meth c G A 2 ad (shB G ad) 3 0 0 (MQ below (CQ G 2 ad (shB G ad) A (PV (fun u => u = up2 M 0 4 (nI (spB (M 1) n lo hi (n - e1) e1))))) args s 0 0 A) 0 [(0, .ref (ad 0)), (1, .int lo), (2, .int hi)] [] M1 := by
    intro n2
    induction n2 with
    | zero =>
      intro i M1 hn
      exact absurd hn (Nat.not_lt_zero _)
    | succ n2 ih =>
      intro i M1 hn hi1 g0 g1 g4 hm
      have e1c : M1 0 1 = nI n := (g0 1 (by decide)).trans h0.1
      have hn := h0.2.1
      refine a_aload_n C0 0 dX4_goBehind_0 rfl rfl ?_
      refine g_X4_22 C0 (lt_b rfl) rfl rfl dX4_goBehind_1 ?_
      refine a_aload_n C0 0 dX4_goBehind_4 rfl rfl ?_
      refine g_X4_19 C0 (lt_b rfl) rfl rfl dX4_goBehind_5 ?_
      refine a_icmp_ge C0 50 dX4_goBehind_8 rfl (fun h8 => ?_) (fun h8 => ?_)
      · have hs : spB (M 1) n lo hi (n - i) i = i := by
          first
            | (have hge : n ≤ i := (nI_le200 g4 e1c (by omega) hn).1.mp h8
               rw [show n - i = 0 by omega]
               rfl)
            | (have e9 : n - i = (n - (i + 1)) + 1 := by omega
               rw [e9]
               refine if_neg fun q => ?_
               rw [← g1] at q
               first
                 | exact absurd h21 (Int32.not_lt.mpr q.2.1)
                 | exact absurd h34 (Int32.not_lt.mpr q.2.2))
        refine AW.ext (M2 := up2 M 0 4 (nI (spB (M 1) n lo hi (n - e1) e1))) (fun q hq => ?_) ?_
        · match q, hq with
          | 0, _ =>
            refine eqc_l ?_
            show (Sum.inr (4, [.ref (ad 1), .int (M1 0 1), .int (M1 0 2), .int (M1 0 3), .int (M1 0 4)]) : va_E) = .inr (4, [.ref (ad 1), .int (M 0 1), .int (M 0 2), .int (M 0 3), .int (nI (spB (M 1) n lo hi (n - e1) e1))])
            rw [g0 1 (by decide), g0 2 (by decide), g0 3 (by decide), g4, ← hm, hs]
          | 1, _ =>
            refine eqc_l ?_
            show (Sum.inl (G.2.1 1, 200, .inl (M1 1)) : va_E) = .inl (G.2.1 1, 200, .inl (M 1))
            rw [g1]
        refine a_vret C0 hr dX4_goBehind_50 ?_
        exact rv_ rfl
      · have hlt : i < n := Nat.not_le.mp fun q => h8 ((nI_le200 g4 e1c (by omega) hn).1.mpr q)
        have hx : IX (M1 0 4) i 200 := IX.eqn g4 (by omega) (by decide)
        refine a_aload_n C0 0 dX4_goBehind_11 rfl rfl ?_
        refine g_X4_9 C0 (lt_b rfl) rfl rfl dX4_goBehind_12 ?_
        refine a_aload_n C0 0 dX4_goBehind_15 rfl rfl ?_
        refine g_X4_22 C0 (lt_b rfl) rfl rfl dX4_goBehind_16 ?_
        refine a_bald C0 _ (lt_b rfl) rfl hx.1 hx.2 dX4_goBehind_19 ?_
        refine a_iload_n C0 1 dX4_goBehind_20 rfl rfl ?_
        refine a_icmp_lt C0 50 dX4_goBehind_21 rfl (fun h21 => ?_) (fun h21 => ?_)
        · have hs : spB (M 1) n lo hi (n - i) i = i := by
            first
              | (have hge : n ≤ i := (nI_le200 g4 e1c (by omega) hn).1.mp h8
                 rw [show n - i = 0 by omega]
                 rfl)
              | (have e9 : n - i = (n - (i + 1)) + 1 := by omega
                 rw [e9]
                 refine if_neg fun q => ?_
                 rw [← g1] at q
                 first
                   | exact absurd h21 (Int32.not_lt.mpr q.2.1)
                   | exact absurd h34 (Int32.not_lt.mpr q.2.2))
          refine AW.ext (M2 := up2 M 0 4 (nI (spB (M 1) n lo hi (n - e1) e1))) (fun q hq => ?_) ?_
          · match q, hq with
            | 0, _ =>
              refine eqc_l ?_
              show (Sum.inr (4, [.ref (ad 1), .int (M1 0 1), .int (M1 0 2), .int (M1 0 3), .int (M1 0 4)]) : va_E) = .inr (4, [.ref (ad 1), .int (M 0 1), .int (M 0 2), .int (M 0 3), .int (nI (spB (M 1) n lo hi (n - e1) e1))])
              rw [g0 1 (by decide), g0 2 (by decide), g0 3 (by decide), g4, ← hm, hs]
            | 1, _ =>
              refine eqc_l ?_
              show (Sum.inl (G.2.1 1, 200, .inl (M1 1)) : va_E) = .inl (G.2.1 1, 200, .inl (M 1))
              rw [g1]
          refine a_vret C0 hr dX4_goBehind_50 ?_
          exact rv_ rfl
        · refine a_aload_n C0 0 dX4_goBehind_24 rfl rfl ?_
          refine g_X4_9 C0 (lt_b rfl) rfl rfl dX4_goBehind_25 ?_
          refine a_aload_n C0 0 dX4_goBehind_28 rfl rfl ?_
          refine g_X4_22 C0 (lt_b rfl) rfl rfl dX4_goBehind_29 ?_
          refine a_bald C0 _ (lt_b rfl) rfl hx.1 hx.2 dX4_goBehind_32 ?_
          refine a_iload_n C0 2 dX4_goBehind_33 rfl rfl ?_
          refine a_icmp_gt C0 50 dX4_goBehind_34 rfl (fun h34 => ?_) (fun h34 => ?_)
          · have hs : spB (M 1) n lo hi (n - i) i = i := by
              first
                | (have hge : n ≤ i := (nI_le200 g4 e1c (by omega) hn).1.mp h8
                   rw [show n - i = 0 by omega]
                   rfl)
                | (have e9 : n - i = (n - (i + 1)) + 1 := by omega
                   rw [e9]
                   refine if_neg fun q => ?_
                   rw [← g1] at q
                   first
                     | exact absurd h21 (Int32.not_lt.mpr q.2.1)
                     | exact absurd h34 (Int32.not_lt.mpr q.2.2))
            refine AW.ext (M2 := up2 M 0 4 (nI (spB (M 1) n lo hi (n - e1) e1))) (fun q hq => ?_) ?_
            · match q, hq with
              | 0, _ =>
                refine eqc_l ?_
                show (Sum.inr (4, [.ref (ad 1), .int (M1 0 1), .int (M1 0 2), .int (M1 0 3), .int (M1 0 4)]) : va_E) = .inr (4, [.ref (ad 1), .int (M 0 1), .int (M 0 2), .int (M 0 3), .int (nI (spB (M 1) n lo hi (n - e1) e1))])
                rw [g0 1 (by decide), g0 2 (by decide), g0 3 (by decide), g4, ← hm, hs]
              | 1, _ =>
                refine eqc_l ?_
                show (Sum.inl (G.2.1 1, 200, .inl (M1 1)) : va_E) = .inl (G.2.1 1, 200, .inl (M 1))
                rw [g1]
            refine a_vret C0 hr dX4_goBehind_50 ?_
            exact rv_ rfl
          · refine a_aload_n C0 0 dX4_goBehind_37 rfl rfl ?_
            refine a_dup C0 dX4_goBehind_38 rfl ?_
            refine g_X4_22 C0 (lt_b rfl) rfl rfl dX4_goBehind_39 ?_
            refine a_iconst C0 1 dX4_goBehind_42 rfl ?_
            refine a_iadd C0 dX4_goBehind_43 ?_
            refine p_X4_22 C0 (lt_b rfl) rfl (lt_b rfl) rfl rfl dX4_goBehind_44 ?_
            refine a_goto C0 0 dX4_goBehind_47 rfl ?_
            exact ih (i + 1) _ (by omega) hlt (fun j hj => by
                show (if j = 4 then M1 0 4 + 1 else M1 0 j) = _
                rw [if_neg hj]
                exact g0 j hj) g1 (by
                show M1 0 4 + 1 = _
                rw [g4, nI_1]) (by
                rw [← hm, show n - i = (n - (i + 1)) + 1 by omega]
                exact (if_pos ⟨hlt, Int32.not_lt.mp (by rw [← g1]; exact h21), Int32.not_lt.mp (by rw [← g1]; exact h34)⟩).symm)
  exact lp (n + 1) e1 M (by omega) h0.2.2.2 (fun _ _ => rfl) rfl h0.2.2.1 rfl
