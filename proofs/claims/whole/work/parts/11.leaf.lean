
theorem EM.z {N : Nat} {ad : Nat → Nat} {sh : SH} {M : WM} : EM N 0 ad ad sh sh0 M (fun _ _ => 0) (fun _ => M) := EM.nil
theorem rt_ {v : Int32} {M : WM} {e : Int32} (h : v = e) : PI (fun r u => r = e ∧ u = M) (some (.int v)) M := ⟨v, rfl, h, rfl⟩
theorem bI_fit (p : Prop) [Decidable p] : fits .boolean (.int (bI p)) = true := by
  unfold bI
  split <;> rfl

set_option maxRecDepth 100000 in
set_option maxHeartbeats 4000000 in
theorem c_X5_isWithin (l : Launch) (G : GE) {ad : Nat → Nat} {M : WM} {v a b : Int32} : CT l G yX5_isWithin cX5_isWithin 3 (some .boolean) 0 [.int v, .int a, .int b] 0 ad sh0 M (PI (fun r u => r = bI (a ≤ v ∧ v ≤ b) ∧ u = M)) := by
  refine CT.of (own := RX5) rfl rfl (le_b rfl) fun p e s m args below meth c A C0 hr => ?_
  refine AW.lo (ls2 := [(0, _), (1, _), (2, _)]) rfl ?_
  refine a_iload_n C0 0 dX5_isWithin_0 rfl rfl ?_
  refine a_iload_n C0 1 dX5_isWithin_1 rfl rfl ?_
  refine a_icmp_lt C0 14 dX5_isWithin_2 rfl (fun h2 => ?_) (fun h2 => ?_)
  · refine a_iconst C0 0 dX5_isWithin_14 rfl ?_
    refine a_zret C0 hr rfl dX5_isWithin_15 ?_
    refine rt_ ?_
    first
      | exact (bI_t ⟨Int32.not_lt.mp h2, Int32.not_lt.mp h7⟩).symm
      | exact (bI_f fun q => absurd h2 (Int32.not_lt.mpr q.1)).symm
      | exact (bI_f fun q => absurd h7 (Int32.not_lt.mpr q.2)).symm
  · refine a_iload_n C0 0 dX5_isWithin_5 rfl rfl ?_
    refine a_iload_n C0 2 dX5_isWithin_6 rfl rfl ?_
    refine a_icmp_gt C0 14 dX5_isWithin_7 rfl (fun h7 => ?_) (fun h7 => ?_)
    · refine a_iconst C0 0 dX5_isWithin_14 rfl ?_
      refine a_zret C0 hr rfl dX5_isWithin_15 ?_
      refine rt_ ?_
      first
        | exact (bI_t ⟨Int32.not_lt.mp h2, Int32.not_lt.mp h7⟩).symm
        | exact (bI_f fun q => absurd h2 (Int32.not_lt.mpr q.1)).symm
        | exact (bI_f fun q => absurd h7 (Int32.not_lt.mpr q.2)).symm
    · refine a_iconst C0 1 dX5_isWithin_10 rfl ?_
      refine a_goto C0 15 dX5_isWithin_11 rfl ?_
      refine a_zret C0 hr rfl dX5_isWithin_15 ?_
      refine rt_ ?_
      first
        | exact (bI_t ⟨Int32.not_lt.mp h2, Int32.not_lt.mp h7⟩).symm
        | exact (bI_f fun q => absurd h2 (Int32.not_lt.mpr q.1)).symm
        | exact (bI_f fun q => absurd h7 (Int32.not_lt.mpr q.2)).symm
set_option maxRecDepth 100000 in
set_option maxHeartbeats 4000000 in
theorem c_X5_isHouse (l : Launch) (G : GE) {ad : Nat → Nat} {M : WM} {v : Int32} : CT l G yX5_isHouse cX5_isHouse 1 (some .boolean) 1 [.int v] 0 ad sh0 M (PI (fun r u => r = bI (0 ≤ v ∧ v ≤ 7) ∧ u = M)) := by
  refine CT.of (own := RX5) rfl rfl (le_b rfl) fun p e s m args below meth c A C0 hr => ?_
  refine AW.lo (ls2 := [(0, _)]) rfl ?_
  refine a_iload_n C0 0 dX5_isHouse_0 rfl rfl ?_
  refine a_iconst C0 0 dX5_isHouse_1 rfl ?_
  refine a_bipush C0 7 dX5_isHouse_2 rfl ?_
  refine a_callS _ 3 C0 EM.z (c_X5_isWithin l G) u_c_X5_isWithin u_m_X5_55 u_st_X5_isWithin u_in_X5 hy_X5_isWithin.2 (hRk rfl) rfl rfl (le_b rfl) dX5_isHouse_4 (k_ro EM.z ?_)
  refine a_zret C0 hr (bI_nar _) dX5_isHouse_7 ?_
  exact rt_ rfl
set_option maxRecDepth 100000 in
set_option maxHeartbeats 4000000 in
theorem c_X5_isKind (l : Launch) (G : GE) {ad : Nat → Nat} {M : WM} {v : Int32} : CT l G yX5_isKind cX5_isKind 1 (some .boolean) 1 [.int v] 0 ad sh0 M (PI (fun r u => r = bI (0 ≤ v ∧ v ≤ 5) ∧ u = M)) := by
  refine CT.of (own := RX5) rfl rfl (le_b rfl) fun p e s m args below meth c A C0 hr => ?_
  refine AW.lo (ls2 := [(0, _)]) rfl ?_
  refine a_iload_n C0 0 dX5_isKind_0 rfl rfl ?_
  refine a_iconst C0 0 dX5_isKind_1 rfl ?_
  refine a_iconst C0 5 dX5_isKind_2 rfl ?_
  refine a_callS _ 3 C0 EM.z (c_X5_isWithin l G) u_c_X5_isWithin u_m_X5_55 u_st_X5_isWithin u_in_X5 hy_X5_isWithin.2 (hRk rfl) rfl rfl (le_b rfl) dX5_isKind_3 (k_ro EM.z ?_)
  refine a_zret C0 hr (bI_nar _) dX5_isKind_6 ?_
  exact rt_ rfl
set_option maxRecDepth 100000 in
set_option maxHeartbeats 4000000 in
theorem c_X5_isHeat (l : Launch) (G : GE) {ad : Nat → Nat} {M : WM} {v : Int32} : CT l G yX5_isHeat cX5_isHeat 1 (some .boolean) 1 [.int v] 0 ad sh0 M (PI (fun r u => r = bI (0 ≤ v ∧ v ≤ 99) ∧ u = M)) := by
  refine CT.of (own := RX5) rfl rfl (le_b rfl) fun p e s m args below meth c A C0 hr => ?_
  refine AW.lo (ls2 := [(0, _)]) rfl ?_
  refine a_iload_n C0 0 dX5_isHeat_0 rfl rfl ?_
  refine a_iconst C0 0 dX5_isHeat_1 rfl ?_
  refine a_bipush C0 99 dX5_isHeat_2 rfl ?_
  refine a_callS _ 3 C0 EM.z (c_X5_isWithin l G) u_c_X5_isWithin u_m_X5_55 u_st_X5_isWithin u_in_X5 hy_X5_isWithin.2 (hRk rfl) rfl rfl (le_b rfl) dX5_isHeat_4 (k_ro EM.z ?_)
  refine a_zret C0 hr (bI_nar _) dX5_isHeat_7 ?_
  exact rt_ rfl
set_option maxRecDepth 100000 in
set_option maxHeartbeats 4000000 in
theorem c_X5_isSheet (l : Launch) (G : GE) {ad : Nat → Nat} {M : WM} {v : Int32} : CT l G yX5_isSheet cX5_isSheet 1 (some .boolean) 1 [.int v] 0 ad sh0 M (PI (fun r u => r = bI (0 ≤ v ∧ v ≤ 3) ∧ u = M)) := by
  refine CT.of (own := RX5) rfl rfl (le_b rfl) fun p e s m args below meth c A C0 hr => ?_
  refine AW.lo (ls2 := [(0, _)]) rfl ?_
  refine a_iload_n C0 0 dX5_isSheet_0 rfl rfl ?_
  refine a_iconst C0 0 dX5_isSheet_1 rfl ?_
  refine a_iconst C0 3 dX5_isSheet_2 rfl ?_
  refine a_callS _ 3 C0 EM.z (c_X5_isWithin l G) u_c_X5_isWithin u_m_X5_55 u_st_X5_isWithin u_in_X5 hy_X5_isWithin.2 (hRk rfl) rfl rfl (le_b rfl) dX5_isSheet_3 (k_ro EM.z ?_)
  refine a_zret C0 hr (bI_nar _) dX5_isSheet_6 ?_
  exact rt_ rfl
set_option maxRecDepth 100000 in
set_option maxHeartbeats 4000000 in
theorem c_X5_isShelf (l : Launch) (G : GE) {ad : Nat → Nat} {M : WM} {v : Int32} : CT l G yX5_isShelf cX5_isShelf 1 (some .boolean) 1 [.int v] 0 ad sh0 M (PI (fun r u => r = bI (0 ≤ v ∧ v ≤ 3) ∧ u = M)) := by
  refine CT.of (own := RX5) rfl rfl (le_b rfl) fun p e s m args below meth c A C0 hr => ?_
  refine AW.lo (ls2 := [(0, _)]) rfl ?_
  refine a_iload_n C0 0 dX5_isShelf_0 rfl rfl ?_
  refine a_iconst C0 0 dX5_isShelf_1 rfl ?_
  refine a_iconst C0 3 dX5_isShelf_2 rfl ?_
  refine a_callS _ 3 C0 EM.z (c_X5_isWithin l G) u_c_X5_isWithin u_m_X5_55 u_st_X5_isWithin u_in_X5 hy_X5_isWithin.2 (hRk rfl) rfl rfl (le_b rfl) dX5_isShelf_3 (k_ro EM.z ?_)
  refine a_zret C0 hr (bI_nar _) dX5_isShelf_6 ?_
  exact rt_ rfl
def held (v : Int32) : Int32 := if 0 < (if v < 99 then v else 99) then (if v < 99 then v else 99) else 0
set_option maxRecDepth 100000 in
set_option maxHeartbeats 4000000 in
theorem c_X5_heldHeat (l : Launch) (G : GE) {ad : Nat → Nat} {M : WM} {v : Int32} : CT l G yX5_heldHeat cX5_heldHeat 1 (some .int) 1 [.int v] 0 ad sh0 M (PI (fun r u => r = held v ∧ u = M)) := by
  refine CT.of (own := RX5) rfl rfl (le_b rfl) fun p e s m args below meth c A C0 hr => ?_
  refine AW.lo (ls2 := [(0, _)]) rfl ?_
  refine a_iconst C0 0 dX5_heldHeat_0 rfl ?_
  refine a_bipush C0 99 dX5_heldHeat_1 rfl ?_
  refine a_iload_n C0 0 dX5_heldHeat_3 rfl rfl ?_
  refine a_mmin C0 u_m_X5_307 u_st_J9_min_7cf53 u_in_J9 u_c_J9_min_7cf53 ⟨le_b rfl, le_b rfl, le_b rfl, le_b rfl⟩ dX5_heldHeat_4 ?_
  refine a_mmax C0 u_m_X5_312 u_st_J9_max_7cf53 u_in_J9 u_c_J9_max_7cf53 ⟨le_b rfl, le_b rfl, le_b rfl, le_b rfl⟩ dX5_heldHeat_7 ?_
  refine a_iret C0 hr dX5_heldHeat_10 ?_
  refine rt_ ?_
  rfl
