
theorem i64_le {a b : Int32} : a.toInt64 ≤ b.toInt64 ↔ a ≤ b := by
  rw [Int64.le_iff_toInt_le, Int32.le_iff_toInt_le, Int32.toInt_toInt64, Int32.toInt_toInt64]
theorem i32_om {a b : Int32} (h : a.toInt = b.toInt) : a = b := Int32.toInt_inj.mp h
theorem lt_7 {v : Int32} : v < 8 ↔ v ≤ 7 := by
  rw [Int32.lt_iff_toInt_lt, Int32.le_iff_toInt_le]
  show v.toInt < 8 ↔ v.toInt ≤ 7
  omega
theorem pl_ {x k : Int32} {t j : Nat} (hx : IX x t 8) (hk : IX k j 4) : IX (31 + 4 * x + k) (31 + 4 * t + j) 63 := by
  have h1 := hx.lt
  have h2 := hk.lt
  refine IX.eqn ?_ (by omega) (by decide)
  rw [hx.eq (by decide), hk.eq (by decide), show (31 : Int32) = nI 31 from rfl, show (4 : Int32) = nI 4 from rfl, pk_mul, nI_add, nI_add]
theorem pl0 {x : Int32} {t : Nat} (hx : IX x t 8) : IX (31 + 4 * x) (31 + 4 * t + 0) 63 := by
  have h1 := hx.lt
  refine IX.eqn ?_ (by omega) (by decide)
  rw [hx.eq (by decide), show (31 : Int32) = nI 31 from rfl, show (4 : Int32) = nI 4 from rfl, pk_mul, nI_add]
  rfl
theorem IX.le {x : Int32} {t n n2 : Nat} (h : IX x t n) (hn : n ≤ n2) : IX x t n2 := ⟨vp_le h.1 hn, h.2⟩
/-- b + x -/
theorem IX.pl {x : Int32} {t n : Nat} (b : Nat) {bb : Int32} (hx : IX x t n) (hb : bb = nI b) (hn : b + n ≤ 200) : IX (bb + x) (b + t) (b + n) := by
  have h1 := hx.lt
  refine IX.eqn ?_ (by omega) (by omega)
  rw [hx.eq (by omega), hb, nI_add]

theorem vp_in_of2 {v : Int32} {n : Nat} (h1 : ¬ v < 0) (h2 : v < nI n) (hn : n < 2 ^ 31) : vp_in v n := by
  rw [vp_in_iff]
  have a1 := Int32.le_iff_toInt_le.mp (Int32.not_lt.mp h1)
  have a1 : 0 ≤ v.toInt := a1
  have a2 := Int32.lt_iff_toInt_lt.mp h2
  rw [nI_toInt hn] at a2
  exact ⟨a1, a2⟩

set_option maxRecDepth 100000 in
set_option maxHeartbeats 4000000 in
theorem c_X6_isIn (l : Launch) (G : GE) {ad : Nat → Nat} {M : WM} {v1 v2 v3 : Int64} {w1 w2 w3 : Int32} (e1 : v1 = w1.toInt64) (e2 : v2 = w2.toInt64) (e3 : v3 = w3.toInt64) : CT l G yX6_isIn cX6_isIn 6 (some .boolean) 0 [.long v1, .long v2, .long v3] 0 ad sh0 M (PI (fun r u => r = bI (w2 ≤ w1 ∧ w1 ≤ w3) ∧ u = M)) := by
  refine CT.of (own := RX6) rfl rfl (le_b rfl) fun p e s m args below meth c A C0 hr => ?_
  refine AW.lo (ls2 := [(0, _), (2, _), (4, _)]) rfl ?_
  refine a_lload_n C0 0 dX6_isIn_0 rfl rfl ?_
  refine a_lload_n C0 1 dX6_isIn_1 rfl rfl ?_
  refine a_lcmp C0 dX6_isIn_2 ?_
  refine a_if_lt C0 17 dX6_isIn_3 rfl (fun h3 => ?_) (fun h3 => ?_)
  · refine a_iconst C0 0 dX6_isIn_17 rfl ?_
    refine a_zret C0 hr rfl dX6_isIn_18 ?_
    refine rt_ ?_
    subst e1 e2 e3
    first
      | exact (bI_t ⟨i64_le.mp (Int64.not_lt.mp fun q => h3 ((lg_cmp_lt _ _).mpr q)), i64_le.mp (Int64.not_lt.mp fun q => h10 ((lg_cmp_gt _ _).mpr q))⟩).symm
      | exact (bI_f fun q => absurd ((lg_cmp_lt _ _).mp h3) (Int64.not_lt.mpr (i64_le.mpr q.1))).symm
      | exact (bI_f fun q => absurd ((lg_cmp_gt _ _).mp h10) (Int64.not_lt.mpr (i64_le.mpr q.2))).symm
  · refine a_lload_n C0 0 dX6_isIn_6 rfl rfl ?_
    refine a_lload C0 2 dX6_isIn_7 rfl ?_
    refine a_lcmp C0 dX6_isIn_9 ?_
    refine a_if_gt C0 17 dX6_isIn_10 rfl (fun h10 => ?_) (fun h10 => ?_)
    · refine a_iconst C0 0 dX6_isIn_17 rfl ?_
      refine a_zret C0 hr rfl dX6_isIn_18 ?_
      refine rt_ ?_
      subst e1 e2 e3
      first
        | exact (bI_t ⟨i64_le.mp (Int64.not_lt.mp fun q => h3 ((lg_cmp_lt _ _).mpr q)), i64_le.mp (Int64.not_lt.mp fun q => h10 ((lg_cmp_gt _ _).mpr q))⟩).symm
        | exact (bI_f fun q => absurd ((lg_cmp_lt _ _).mp h3) (Int64.not_lt.mpr (i64_le.mpr q.1))).symm
        | exact (bI_f fun q => absurd ((lg_cmp_gt _ _).mp h10) (Int64.not_lt.mpr (i64_le.mpr q.2))).symm
    · refine a_iconst C0 1 dX6_isIn_13 rfl ?_
      refine a_goto C0 18 dX6_isIn_14 rfl ?_
      refine a_zret C0 hr rfl dX6_isIn_18 ?_
      refine rt_ ?_
      subst e1 e2 e3
      first
        | exact (bI_t ⟨i64_le.mp (Int64.not_lt.mp fun q => h3 ((lg_cmp_lt _ _).mpr q)), i64_le.mp (Int64.not_lt.mp fun q => h10 ((lg_cmp_gt _ _).mpr q))⟩).symm
        | exact (bI_f fun q => absurd ((lg_cmp_lt _ _).mp h3) (Int64.not_lt.mpr (i64_le.mpr q.1))).symm
        | exact (bI_f fun q => absurd ((lg_cmp_gt _ _).mp h10) (Int64.not_lt.mpr (i64_le.mpr q.2))).symm
set_option maxRecDepth 100000 in
set_option maxHeartbeats 4000000 in
theorem c_X6_isHouse (l : Launch) (G : GE) {ad : Nat → Nat} {M : WM} {v : Int32} : CT l G yX6_isHouse cX6_isHouse 1 (some .boolean) 0 [.int v] 0 ad sh0 M (PI (fun r u => r = bI (isHo v) ∧ u = M)) := by
  refine CT.of (own := RX6) rfl rfl (le_b rfl) fun p e s m args below meth c A C0 hr => ?_
  refine AW.lo (ls2 := [(0, _)]) rfl ?_
  refine a_iload_n C0 0 dX6_isHouse_0 rfl rfl ?_
  refine a_if_lt C0 14 dX6_isHouse_1 rfl (fun h1 => ?_) (fun h1 => ?_)
  · refine a_iconst C0 0 dX6_isHouse_14 rfl ?_
    refine a_zret C0 hr rfl dX6_isHouse_15 ?_
    refine rt_ ?_
    first
      | exact (bI_t ⟨Int32.not_lt.mp h1, lt_7.mp (Int32.not_le.mp h7)⟩).symm
      | exact (bI_f fun q => absurd q.1 (Int32.not_le.mpr h1)).symm
      | exact (bI_f fun q => absurd (lt_7.mpr q.2) (Int32.not_lt.mpr h7)).symm
  · refine a_iload_n C0 0 dX6_isHouse_4 rfl rfl ?_
    refine a_bipush C0 8 dX6_isHouse_5 rfl ?_
    refine a_icmp_ge C0 14 dX6_isHouse_7 rfl (fun h7 => ?_) (fun h7 => ?_)
    · refine a_iconst C0 0 dX6_isHouse_14 rfl ?_
      refine a_zret C0 hr rfl dX6_isHouse_15 ?_
      refine rt_ ?_
      first
        | exact (bI_t ⟨Int32.not_lt.mp h1, lt_7.mp (Int32.not_le.mp h7)⟩).symm
        | exact (bI_f fun q => absurd q.1 (Int32.not_le.mpr h1)).symm
        | exact (bI_f fun q => absurd (lt_7.mpr q.2) (Int32.not_lt.mpr h7)).symm
    · refine a_iconst C0 1 dX6_isHouse_10 rfl ?_
      refine a_goto C0 15 dX6_isHouse_11 rfl ?_
      refine a_zret C0 hr rfl dX6_isHouse_15 ?_
      refine rt_ ?_
      first
        | exact (bI_t ⟨Int32.not_lt.mp h1, lt_7.mp (Int32.not_le.mp h7)⟩).symm
        | exact (bI_f fun q => absurd q.1 (Int32.not_le.mpr h1)).symm
        | exact (bI_f fun q => absurd (lt_7.mpr q.2) (Int32.not_lt.mpr h7)).symm
set_option maxRecDepth 100000 in
set_option maxHeartbeats 4000000 in
theorem c_X6_isSheet (l : Launch) (G : GE) {ad : Nat → Nat} {M : WM} {v : Int32} : CT l G yX6_isSheet cX6_isSheet 1 (some .boolean) 1 [.int v] 0 ad sh0 M (PI (fun r u => r = bI (isSh v) ∧ u = M)) := by
  refine CT.of (own := RX6) rfl rfl (le_b rfl) fun p e s m args below meth c A C0 hr => ?_
  refine AW.lo (ls2 := [(0, _)]) rfl ?_
  refine a_iload_n C0 0 dX6_isSheet_0 rfl rfl ?_
  refine a_i2l C0 dX6_isSheet_1 ?_
  refine a_lconst C0 0 dX6_isSheet_2 rfl ?_
  refine a_ldc2 C0 dX6_isSheet_3 u_k_X6_154 ?_
  refine a_callS _ 3 C0 EM.z (c_X6_isIn l G (w2 := 0) (w3 := 3) rfl rfl rfl) u_c_X6_isIn u_m_X6_54 u_st_X6_isIn u_in_X6 hy_X6_isIn.2 (hRk rfl) rfl rfl (le_b rfl) dX6_isSheet_6 (k_ro EM.z ?_)
  refine a_zret C0 hr (bI_nar _) dX6_isSheet_9 ?_
  exact rt_ rfl
set_option maxRecDepth 100000 in
set_option maxHeartbeats 4000000 in
theorem c_X6_isShelf (l : Launch) (G : GE) {ad : Nat → Nat} {M : WM} {v : Int32} : CT l G yX6_isShelf cX6_isShelf 1 (some .boolean) 1 [.int v] 0 ad sh0 M (PI (fun r u => r = bI (isSh v) ∧ u = M)) := by
  refine CT.of (own := RX6) rfl rfl (le_b rfl) fun p e s m args below meth c A C0 hr => ?_
  refine AW.lo (ls2 := [(0, _)]) rfl ?_
  refine a_iload_n C0 0 dX6_isShelf_0 rfl rfl ?_
  refine a_i2l C0 dX6_isShelf_1 ?_
  refine a_lconst C0 0 dX6_isShelf_2 rfl ?_
  refine a_ldc2 C0 dX6_isShelf_3 u_k_X6_154 ?_
  refine a_callS _ 3 C0 EM.z (c_X6_isIn l G (w2 := 0) (w3 := 3) rfl rfl rfl) u_c_X6_isIn u_m_X6_54 u_st_X6_isIn u_in_X6 hy_X6_isIn.2 (hRk rfl) rfl rfl (le_b rfl) dX6_isShelf_6 (k_ro EM.z ?_)
  refine a_zret C0 hr (bI_nar _) dX6_isShelf_9 ?_
  exact rt_ rfl
set_option maxRecDepth 100000 in
set_option maxHeartbeats 4000000 in
theorem c_X6_isShort (l : Launch) (G : GE) {ad : Nat → Nat} {M : WM} {v : Int32} : CT l G yX6_isShort cX6_isShort 1 (some .boolean) 1 [.int v] 0 ad sh0 M (PI (fun r u => r = bI (1 ≤ v ∧ v ≤ 30) ∧ u = M)) := by
  refine CT.of (own := RX6) rfl rfl (le_b rfl) fun p e s m args below meth c A C0 hr => ?_
  refine AW.lo (ls2 := [(0, _)]) rfl ?_
  refine a_iload_n C0 0 dX6_isShort_0 rfl rfl ?_
  refine a_i2l C0 dX6_isShort_1 ?_
  refine a_lconst C0 1 dX6_isShort_2 rfl ?_
  refine a_ldc2 C0 dX6_isShort_3 u_k_X6_216 ?_
  refine a_callS _ 3 C0 EM.z (c_X6_isIn l G (w2 := 1) (w3 := 30) rfl rfl rfl) u_c_X6_isIn u_m_X6_54 u_st_X6_isIn u_in_X6 hy_X6_isIn.2 (hRk rfl) rfl rfl (le_b rfl) dX6_isShort_6 (k_ro EM.z ?_)
  refine a_zret C0 hr (bI_nar _) dX6_isShort_9 ?_
  exact rt_ rfl
set_option maxRecDepth 100000 in
set_option maxHeartbeats 4000000 in
theorem c_X6_isAlpha (l : Launch) (G : GE) {ad : Nat → Nat} {M : WM} {v : Int32} : CT l G yX6_isAlpha cX6_isAlpha 1 (some .boolean) 0 [.int v] 0 ad sh0 M (PI (fun r u => r = bI (97 ≤ v ∧ v ≤ 122) ∧ u = M)) := by
  refine CT.of (own := RX6) rfl rfl (le_b rfl) fun p e s m args below meth c A C0 hr => ?_
  refine AW.lo (ls2 := [(0, _)]) rfl ?_
  refine a_iload_n C0 0 dX6_isAlpha_0 rfl rfl ?_
  refine a_bipush C0 97 dX6_isAlpha_1 rfl ?_
  refine a_icmp_lt C0 16 dX6_isAlpha_3 rfl (fun h3 => ?_) (fun h3 => ?_)
  · refine a_iconst C0 0 dX6_isAlpha_16 rfl ?_
    refine a_zret C0 hr rfl dX6_isAlpha_17 ?_
    refine rt_ ?_
    first
      | exact (bI_t ⟨Int32.not_lt.mp h3, Int32.not_lt.mp h9⟩).symm
      | exact (bI_f fun q => absurd h3 (Int32.not_lt.mpr q.1)).symm
      | exact (bI_f fun q => absurd h9 (Int32.not_lt.mpr q.2)).symm
  · refine a_iload_n C0 0 dX6_isAlpha_6 rfl rfl ?_
    refine a_bipush C0 122 dX6_isAlpha_7 rfl ?_
    refine a_icmp_gt C0 16 dX6_isAlpha_9 rfl (fun h9 => ?_) (fun h9 => ?_)
    · refine a_iconst C0 0 dX6_isAlpha_16 rfl ?_
      refine a_zret C0 hr rfl dX6_isAlpha_17 ?_
      refine rt_ ?_
      first
        | exact (bI_t ⟨Int32.not_lt.mp h3, Int32.not_lt.mp h9⟩).symm
        | exact (bI_f fun q => absurd h3 (Int32.not_lt.mpr q.1)).symm
        | exact (bI_f fun q => absurd h9 (Int32.not_lt.mpr q.2)).symm
    · refine a_iconst C0 1 dX6_isAlpha_12 rfl ?_
      refine a_goto C0 17 dX6_isAlpha_13 rfl ?_
      refine a_zret C0 hr rfl dX6_isAlpha_17 ?_
      refine rt_ ?_
      first
        | exact (bI_t ⟨Int32.not_lt.mp h3, Int32.not_lt.mp h9⟩).symm
        | exact (bI_f fun q => absurd h3 (Int32.not_lt.mpr q.1)).symm
        | exact (bI_f fun q => absurd h9 (Int32.not_lt.mpr q.2)).symm
set_option maxRecDepth 100000 in
set_option maxHeartbeats 4000000 in
theorem c_X6_isDigit (l : Launch) (G : GE) {ad : Nat → Nat} {M : WM} {v : Int32} : CT l G yX6_isDigit cX6_isDigit 1 (some .boolean) 0 [.int v] 0 ad sh0 M (PI (fun r u => r = bI (48 ≤ v ∧ v ≤ 57) ∧ u = M)) := by
  refine CT.of (own := RX6) rfl rfl (le_b rfl) fun p e s m args below meth c A C0 hr => ?_
  refine AW.lo (ls2 := [(0, _)]) rfl ?_
  refine a_iload_n C0 0 dX6_isDigit_0 rfl rfl ?_
  refine a_bipush C0 48 dX6_isDigit_1 rfl ?_
  refine a_icmp_lt C0 16 dX6_isDigit_3 rfl (fun h3 => ?_) (fun h3 => ?_)
  · refine a_iconst C0 0 dX6_isDigit_16 rfl ?_
    refine a_zret C0 hr rfl dX6_isDigit_17 ?_
    refine rt_ ?_
    first
      | exact (bI_t ⟨Int32.not_lt.mp h3, Int32.not_lt.mp h9⟩).symm
      | exact (bI_f fun q => absurd h3 (Int32.not_lt.mpr q.1)).symm
      | exact (bI_f fun q => absurd h9 (Int32.not_lt.mpr q.2)).symm
  · refine a_iload_n C0 0 dX6_isDigit_6 rfl rfl ?_
    refine a_bipush C0 57 dX6_isDigit_7 rfl ?_
    refine a_icmp_gt C0 16 dX6_isDigit_9 rfl (fun h9 => ?_) (fun h9 => ?_)
    · refine a_iconst C0 0 dX6_isDigit_16 rfl ?_
      refine a_zret C0 hr rfl dX6_isDigit_17 ?_
      refine rt_ ?_
      first
        | exact (bI_t ⟨Int32.not_lt.mp h3, Int32.not_lt.mp h9⟩).symm
        | exact (bI_f fun q => absurd h3 (Int32.not_lt.mpr q.1)).symm
        | exact (bI_f fun q => absurd h9 (Int32.not_lt.mpr q.2)).symm
    · refine a_iconst C0 1 dX6_isDigit_12 rfl ?_
      refine a_goto C0 17 dX6_isDigit_13 rfl ?_
      refine a_zret C0 hr rfl dX6_isDigit_17 ?_
      refine rt_ ?_
      first
        | exact (bI_t ⟨Int32.not_lt.mp h3, Int32.not_lt.mp h9⟩).symm
        | exact (bI_f fun q => absurd h3 (Int32.not_lt.mpr q.1)).symm
        | exact (bI_f fun q => absurd h9 (Int32.not_lt.mpr q.2)).symm
set_option maxRecDepth 100000 in
set_option maxHeartbeats 4000000 in
theorem c_X6_greatest (l : Launch) (G : GE) {ad : Nat → Nat} {M : WM} {a b : Int32} : CT l G yX6_greatest cX6_greatest 2 (some .int) 0 [.int a, .int b] 0 ad sh0 M (PI (fun r u => r = (if b < a then a else b) ∧ u = M)) := by
  refine CT.of (own := RX6) rfl rfl (le_b rfl) fun p e s m args below meth c A C0 hr => ?_
  refine AW.lo (ls2 := [(0, _), (1, _)]) rfl ?_
  refine a_iload_n C0 0 dX6_greatest_0 rfl rfl ?_
  refine a_iload_n C0 1 dX6_greatest_1 rfl rfl ?_
  refine a_icmp_le C0 9 dX6_greatest_2 rfl (fun h2 => ?_) (fun h2 => ?_)
  · refine a_iload_n C0 1 dX6_greatest_9 rfl rfl ?_
    refine a_iret C0 hr dX6_greatest_10 ?_
    first
      | exact rt_ (if_pos (Int32.not_le.mp h2)).symm
      | exact rt_ (if_neg (Int32.not_lt.mpr h2)).symm
  · refine a_iload_n C0 0 dX6_greatest_5 rfl rfl ?_
    refine a_goto C0 10 dX6_greatest_6 rfl ?_
    refine a_iret C0 hr dX6_greatest_10 ?_
    first
      | exact rt_ (if_pos (Int32.not_le.mp h2)).symm
      | exact rt_ (if_neg (Int32.not_lt.mpr h2)).symm
set_option maxRecDepth 100000 in
set_option maxHeartbeats 4000000 in
theorem c_X6_mostOf (l : Launch) (G : GE) {ad : Nat → Nat} {M : WM} {v : Int32} : CT l G yX6_mostOf cX6_mostOf 1 (some .int) 0 [.int v] 0 ad sh0 M (PI (fun r u => r = (if v < 2 then 9 else 99) ∧ u = M)) := by
  refine CT.of (own := RX6) rfl rfl (le_b rfl) fun p e s m args below meth c A C0 hr => ?_
  refine AW.lo (ls2 := [(0, _)]) rfl ?_
  refine a_iload_n C0 0 dX6_mostOf_0 rfl rfl ?_
  refine a_iconst C0 2 dX6_mostOf_1 rfl ?_
  refine a_icmp_ge C0 10 dX6_mostOf_2 rfl (fun h2 => ?_) (fun h2 => ?_)
  · refine a_bipush C0 99 dX6_mostOf_10 rfl ?_
    refine a_iret C0 hr dX6_mostOf_12 ?_
    first
      | exact rt_ (if_pos (Int32.not_le.mp h2)).symm
      | exact rt_ (if_neg (Int32.not_lt.mpr h2)).symm
  · refine a_bipush C0 9 dX6_mostOf_5 rfl ?_
    refine a_goto C0 12 dX6_mostOf_7 rfl ?_
    refine a_iret C0 hr dX6_mostOf_12 ?_
    first
      | exact rt_ (if_pos (Int32.not_le.mp h2)).symm
      | exact rt_ (if_neg (Int32.not_lt.mpr h2)).symm
theorem held_lo {v : Int32} (h : v < 0) : held v = 0 := by
  unfold held
  rw [if_pos (Int32.lt_of_lt_of_le h (by decide)), if_neg (Int32.not_lt.mpr (Int32.le_of_lt h))]
theorem held_hi {v : Int32} (h : ¬ v ≤ 99) : held v = 99 := by
  unfold held
  rw [if_neg (Int32.not_lt.mpr (Int32.le_of_lt (Int32.not_le.mp h)))]
  rfl
theorem held_is {v : Int32} (h : ¬ v < 0) (h2 : v ≤ 99) : held v = v := by
  have a1 := Int32.le_iff_toInt_le.mp (Int32.not_lt.mp h)
  have a2 := Int32.le_iff_toInt_le.mp h2
  have a1 : 0 ≤ v.toInt := a1
  have a2 : v.toInt ≤ 99 := a2
  have e : (if v < 99 then v else 99) = v := by
    by_cases c : v < 99
    · exact if_pos c
    · rw [if_neg c]
      have a3 := Int32.le_iff_toInt_le.mp (Int32.not_lt.mp c)
      have a3 : 99 ≤ v.toInt := a3
      refine i32_om ?_
      show (99 : Int) = _
      omega
  unfold held
  rw [e]
  by_cases c : (0 : Int32) < v
  · exact if_pos c
  · rw [if_neg c]
    have a3 := Int32.le_iff_toInt_le.mp (Int32.not_lt.mp c)
    have a3 : v.toInt ≤ 0 := a3
    refine i32_om ?_
    show (0 : Int) = _
    omega

set_option maxRecDepth 100000 in
set_option maxHeartbeats 4000000 in
theorem c_X6_within (l : Launch) (G : GE) {ad : Nat → Nat} {M : WM} {v : Int32} : CT l G yX6_within cX6_within 1 (some .int) 0 [.int v] 0 ad sh0 M (PI (fun r u => r = held v ∧ u = M)) := by
  refine CT.of (own := RX6) rfl rfl (le_b rfl) fun p e s m args below meth c A C0 hr => ?_
  refine AW.lo (ls2 := [(0, _)]) rfl ?_
  refine a_iload_n C0 0 dX6_within_0 rfl rfl ?_
  refine a_if_ge C0 8 dX6_within_1 rfl (fun h1 => ?_) (fun h1 => ?_)
  · refine a_iload_n C0 0 dX6_within_8 rfl rfl ?_
    refine a_bipush C0 99 dX6_within_9 rfl ?_
    refine a_icmp_le C0 19 dX6_within_11 rfl (fun h11 => ?_) (fun h11 => ?_)
    · refine a_iload_n C0 0 dX6_within_19 rfl rfl ?_
      refine a_iret C0 hr dX6_within_20 ?_
      first
        | exact rt_ (held_lo (Int32.not_le.mp h1)).symm
        | exact rt_ (held_hi h11).symm
        | exact rt_ (held_is (Int32.not_lt.mpr h1) h11).symm
    · refine a_bipush C0 99 dX6_within_14 rfl ?_
      refine a_goto C0 20 dX6_within_16 rfl ?_
      refine a_iret C0 hr dX6_within_20 ?_
      first
        | exact rt_ (held_lo (Int32.not_le.mp h1)).symm
        | exact rt_ (held_hi h11).symm
        | exact rt_ (held_is (Int32.not_lt.mpr h1) h11).symm
  · refine a_iconst C0 0 dX6_within_4 rfl ?_
    refine a_goto C0 20 dX6_within_5 rfl ?_
    refine a_iret C0 hr dX6_within_20 ?_
    first
      | exact rt_ (held_lo (Int32.not_le.mp h1)).symm
      | exact rt_ (held_hi h11).symm
      | exact rt_ (held_is (Int32.not_lt.mpr h1) h11).symm
set_option maxRecDepth 100000 in
set_option maxHeartbeats 4000000 in
theorem c_X6_size (l : Launch) (G : GE) {ad : Nat → Nat} {M : WM} {v : Int32} (hv : vp_in v 256) : CT l G yX6_size cX6_size 3 (some .int) 0 [.int v] 0 ad sh0 M (PI (fun r u => r = bcS v ∧ u = M)) := by
  refine CT.of (own := RX6) rfl rfl (le_b rfl) fun p e s m args below meth c A C0 hr => ?_
  refine AW.lo (ls2 := [(0, _)]) rfl ?_
  have lp : ∀ (n : Nat) (f : Nat) (a b : Int32), f < n → (zerK f b = true) → (cntK f b a = bcS v) → AW p l e (rmk 0) s m args below meth c G A 0 ad sh0 3 0 0 (MQ below (CQ G 0 ad sh0 A (PI (fun r u => r = bcS v ∧ u = M))) args s 0 0 A) 4 [(0, .int v), (1, .int a), (2, .int b)] [] M := by
    intro n
    induction n with
    | zero =>
      intro f a b hn
      exact absurd hn (Nat.not_lt_zero _)
    | succ n ih =>
      intro f a b hn hz hm
      refine a_iload_n C0 2 dX6_size_4 rfl rfl ?_
      refine a_if_eq C0 20 dX6_size_5 rfl (fun h5 => ?_) (fun h5 => ?_)
      · refine a_iload_n C0 1 dX6_size_20 rfl rfl ?_
        refine a_iret C0 hr dX6_size_21 ?_
        refine rt_ ?_
        rw [← hm]
        cases f with
        | zero => rfl
        | succ f2 => exact (if_pos h5).symm
      · obtain ⟨f, rfl⟩ : ∃ f2, f = f2 + 1 := by
          cases f with
          | zero => exact absurd (of_decide_eq_true hz) h5
          | succ f2 => exact ⟨f2, rfl⟩
        have hz : zerK f (b &&& (b - 1)) = true := by
          have q : (decide (b = 0) || zerK f (b &&& (b - 1))) = true := hz
          rw [decide_eq_false h5, Bool.false_or] at q
          exact q
        have hm : cntK f (b &&& (b - 1)) (a + 1) = bcS v := by
          rw [← hm]
          exact (if_neg h5).symm
        refine a_iinc (ls2 := [(1, _), (0, _), (2, _)]) C0 1 1 dX6_size_8 rfl rfl (lt_b rfl) rfl ?_
        refine a_iload_n C0 2 dX6_size_11 rfl rfl ?_
        refine a_iload_n C0 2 dX6_size_12 rfl rfl ?_
        refine a_iconst C0 1 dX6_size_13 rfl ?_
        refine a_isub C0 dX6_size_14 ?_
        refine a_iand C0 dX6_size_15 ?_
        refine a_istore_n (ls2 := [(2, _), (1, _), (0, _)]) C0 dX6_size_16 rfl (lt_b rfl) rfl ?_
        refine a_goto C0 4 dX6_size_17 rfl ?_
        refine AW.sub (ls2 := [(0, _), (1, _), (2, _)]) [2, 1, 0] rfl ?_
        exact ih f _ _ (by omega) hz hm
  obtain ⟨ja, hja, eja⟩ := vp_in_of hv (by decide)
  have hs := (Bool.and_eq_true _ _).mp (cnt_t ja hja)
  rw [← eja] at hs
  refine a_iconst C0 0 dX6_size_0 rfl ?_
  refine a_istore_n (ls2 := [(1, _), (0, _)]) C0 dX6_size_1 rfl (lt_b rfl) rfl ?_
  refine a_iload_n C0 1 dX6_size_2 rfl rfl ?_
  refine a_istore_n (ls2 := [(2, _), (1, _), (0, _)]) C0 dX6_size_3 rfl (lt_b rfl) rfl ?_
  refine AW.sub (ls2 := [(0, _), (1, _), (2, _)]) [2, 1, 0] rfl ?_
  exact lp 9 8 _ _ (by omega) hs.1 (of_decide_eq_true hs.2)
def isU (a b : Int32) : Bool := decide (b = 0) || decide (a = b) || (decide (b = 1) && decide (a = 3)) || (decide (b = 2) && decide (a = 4))
theorem isU_t : ∀ a, a < 6 → ∀ b, b < 6 → isU (nI a) (nI b) = udS 6 (nI a) (nI b) := by decide +kernel

set_option maxRecDepth 100000 in
set_option maxHeartbeats 4000000 in
theorem c_X6_isUnder (l : Launch) (G : GE) {ad : Nat → Nat} {M : WM} {a b : Int32} (ha : vp_in a 6) (hb : vp_in b 6) : CT l G yX6_isUnder cX6_isUnder 2 (some .boolean) 0 [.int a, .int b] 0 ad sh0 M (PI (fun r u => r = bI (udS 6 a b = true) ∧ u = M)) := by
  refine CT.of (own := RX6) rfl rfl (le_b rfl) fun p e s m args below meth c A C0 hr => ?_
  refine AW.lo (ls2 := [(0, _), (1, _)]) rfl ?_
  obtain ⟨ja, hja, eja⟩ := vp_in_of ha (by decide)
  obtain ⟨jb, hjb, ejb⟩ := vp_in_of hb (by decide)
  have hs : isU a b = udS 6 a b := by
    rw [eja, ejb]
    exact isU_t ja hja jb hjb
  refine a_iload_n C0 1 dX6_isUnder_0 rfl rfl ?_
  refine a_if_eq C0 29 dX6_isUnder_1 rfl (fun h1 => ?_) (fun h1 => ?_)
  · refine a_iconst C0 1 dX6_isUnder_29 rfl ?_
    refine a_goto C0 34 dX6_isUnder_30 rfl ?_
    refine a_zret C0 hr rfl dX6_isUnder_34 ?_
    refine rt_ ?_
    rw [← hs]
    unfold isU
    first
      | (refine (bI_t ?_).symm; simp [h1]; done)
      | (refine (bI_t ?_).symm; simp [h6]; done)
      | (refine (bI_t ?_).symm; simp [h11, h16]; done)
      | (refine (bI_t ?_).symm; simp [h21, h26]; done)
      | (refine (bI_f ?_).symm; simp only [h1, h6]; first | (simp [h11, h21]; done) | (simp [h11, h26]; done) | (simp [h16, h21]; done) | (simp [h16, h26]; done))
  · refine a_iload_n C0 0 dX6_isUnder_4 rfl rfl ?_
    refine a_iload_n C0 1 dX6_isUnder_5 rfl rfl ?_
    refine a_icmp_eq C0 29 dX6_isUnder_6 rfl (fun h6 => ?_) (fun h6 => ?_)
    · refine a_iconst C0 1 dX6_isUnder_29 rfl ?_
      refine a_goto C0 34 dX6_isUnder_30 rfl ?_
      refine a_zret C0 hr rfl dX6_isUnder_34 ?_
      refine rt_ ?_
      rw [← hs]
      unfold isU
      first
        | (refine (bI_t ?_).symm; simp [h1]; done)
        | (refine (bI_t ?_).symm; simp [h6]; done)
        | (refine (bI_t ?_).symm; simp [h11, h16]; done)
        | (refine (bI_t ?_).symm; simp [h21, h26]; done)
        | (refine (bI_f ?_).symm; simp only [h1, h6]; first | (simp [h11, h21]; done) | (simp [h11, h26]; done) | (simp [h16, h21]; done) | (simp [h16, h26]; done))
    · refine a_iload_n C0 1 dX6_isUnder_9 rfl rfl ?_
      refine a_iconst C0 1 dX6_isUnder_10 rfl ?_
      refine a_icmp_ne C0 19 dX6_isUnder_11 rfl (fun h11 => ?_) (fun h11 => ?_)
      · refine a_iload_n C0 1 dX6_isUnder_19 rfl rfl ?_
        refine a_iconst C0 2 dX6_isUnder_20 rfl ?_
        refine a_icmp_ne C0 33 dX6_isUnder_21 rfl (fun h21 => ?_) (fun h21 => ?_)
        · refine a_iconst C0 0 dX6_isUnder_33 rfl ?_
          refine a_zret C0 hr rfl dX6_isUnder_34 ?_
          refine rt_ ?_
          rw [← hs]
          unfold isU
          first
            | (refine (bI_t ?_).symm; simp [h1]; done)
            | (refine (bI_t ?_).symm; simp [h6]; done)
            | (refine (bI_t ?_).symm; simp [h11, h16]; done)
            | (refine (bI_t ?_).symm; simp [h21, h26]; done)
            | (refine (bI_f ?_).symm; simp only [h1, h6]; first | (simp [h11, h21]; done) | (simp [h11, h26]; done) | (simp [h16, h21]; done) | (simp [h16, h26]; done))
        · refine a_iload_n C0 0 dX6_isUnder_24 rfl rfl ?_
          refine a_iconst C0 4 dX6_isUnder_25 rfl ?_
          refine a_icmp_ne C0 33 dX6_isUnder_26 rfl (fun h26 => ?_) (fun h26 => ?_)
          · refine a_iconst C0 0 dX6_isUnder_33 rfl ?_
            refine a_zret C0 hr rfl dX6_isUnder_34 ?_
            refine rt_ ?_
            rw [← hs]
            unfold isU
            first
              | (refine (bI_t ?_).symm; simp [h1]; done)
              | (refine (bI_t ?_).symm; simp [h6]; done)
              | (refine (bI_t ?_).symm; simp [h11, h16]; done)
              | (refine (bI_t ?_).symm; simp [h21, h26]; done)
              | (refine (bI_f ?_).symm; simp only [h1, h6]; first | (simp [h11, h21]; done) | (simp [h11, h26]; done) | (simp [h16, h21]; done) | (simp [h16, h26]; done))
          · refine a_iconst C0 1 dX6_isUnder_29 rfl ?_
            refine a_goto C0 34 dX6_isUnder_30 rfl ?_
            refine a_zret C0 hr rfl dX6_isUnder_34 ?_
            refine rt_ ?_
            rw [← hs]
            unfold isU
            first
              | (refine (bI_t ?_).symm; simp [h1]; done)
              | (refine (bI_t ?_).symm; simp [h6]; done)
              | (refine (bI_t ?_).symm; simp [h11, h16]; done)
              | (refine (bI_t ?_).symm; simp [h21, h26]; done)
              | (refine (bI_f ?_).symm; simp only [h1, h6]; first | (simp [h11, h21]; done) | (simp [h11, h26]; done) | (simp [h16, h21]; done) | (simp [h16, h26]; done))
      · refine a_iload_n C0 0 dX6_isUnder_14 rfl rfl ?_
        refine a_iconst C0 3 dX6_isUnder_15 rfl ?_
        refine a_icmp_eq C0 29 dX6_isUnder_16 rfl (fun h16 => ?_) (fun h16 => ?_)
        · refine a_iconst C0 1 dX6_isUnder_29 rfl ?_
          refine a_goto C0 34 dX6_isUnder_30 rfl ?_
          refine a_zret C0 hr rfl dX6_isUnder_34 ?_
          refine rt_ ?_
          rw [← hs]
          unfold isU
          first
            | (refine (bI_t ?_).symm; simp [h1]; done)
            | (refine (bI_t ?_).symm; simp [h6]; done)
            | (refine (bI_t ?_).symm; simp [h11, h16]; done)
            | (refine (bI_t ?_).symm; simp [h21, h26]; done)
            | (refine (bI_f ?_).symm; simp only [h1, h6]; first | (simp [h11, h21]; done) | (simp [h11, h26]; done) | (simp [h16, h21]; done) | (simp [h16, h26]; done))
        · refine a_iload_n C0 1 dX6_isUnder_19 rfl rfl ?_
          refine a_iconst C0 2 dX6_isUnder_20 rfl ?_
          refine a_icmp_ne C0 33 dX6_isUnder_21 rfl (fun h21 => ?_) (fun h21 => ?_)
          · refine a_iconst C0 0 dX6_isUnder_33 rfl ?_
            refine a_zret C0 hr rfl dX6_isUnder_34 ?_
            refine rt_ ?_
            rw [← hs]
            unfold isU
            first
              | (refine (bI_t ?_).symm; simp [h1]; done)
              | (refine (bI_t ?_).symm; simp [h6]; done)
              | (refine (bI_t ?_).symm; simp [h11, h16]; done)
              | (refine (bI_t ?_).symm; simp [h21, h26]; done)
              | (refine (bI_f ?_).symm; simp only [h1, h6]; first | (simp [h11, h21]; done) | (simp [h11, h26]; done) | (simp [h16, h21]; done) | (simp [h16, h26]; done))
          · refine a_iload_n C0 0 dX6_isUnder_24 rfl rfl ?_
            refine a_iconst C0 4 dX6_isUnder_25 rfl ?_
            refine a_icmp_ne C0 33 dX6_isUnder_26 rfl (fun h26 => ?_) (fun h26 => ?_)
            · refine a_iconst C0 0 dX6_isUnder_33 rfl ?_
              refine a_zret C0 hr rfl dX6_isUnder_34 ?_
              refine rt_ ?_
              rw [← hs]
              unfold isU
              first
                | (refine (bI_t ?_).symm; simp [h1]; done)
                | (refine (bI_t ?_).symm; simp [h6]; done)
                | (refine (bI_t ?_).symm; simp [h11, h16]; done)
                | (refine (bI_t ?_).symm; simp [h21, h26]; done)
                | (refine (bI_f ?_).symm; simp only [h1, h6]; first | (simp [h11, h21]; done) | (simp [h11, h26]; done) | (simp [h16, h21]; done) | (simp [h16, h26]; done))
            · refine a_iconst C0 1 dX6_isUnder_29 rfl ?_
              refine a_goto C0 34 dX6_isUnder_30 rfl ?_
              refine a_zret C0 hr rfl dX6_isUnder_34 ?_
              refine rt_ ?_
              rw [← hs]
              unfold isU
              first
                | (refine (bI_t ?_).symm; simp [h1]; done)
                | (refine (bI_t ?_).symm; simp [h6]; done)
                | (refine (bI_t ?_).symm; simp [h11, h16]; done)
                | (refine (bI_t ?_).symm; simp [h21, h26]; done)
                | (refine (bI_f ?_).symm; simp only [h1, h6]; first | (simp [h11, h21]; done) | (simp [h11, h26]; done) | (simp [h16, h21]; done) | (simp [h16, h26]; done))
set_option maxRecDepth 100000 in
set_option maxHeartbeats 4000000 in
theorem c_X6_isOne (l : Launch) (G : GE) {ad : Nat → Nat} {M : WM} {O S : RW} {X : WM} {P : WM} {nT mm : Nat} (rp : RP P S nT mm) {v : Int32} (hM : M = mkM O S X)  : CT l G yX6_isOne cX6_isOne 2 (some .boolean) 0 [.ref (ad 0), .int v] 14 ad (shM G ad) M (PI (fun r u => r = bI (isTl P v) ∧ u = mkM O S X)) := by
  refine CT.of (own := RX6) rfl rfl (le_b rfl) fun p e s m args below meth c A C0 hr => ?_
  refine AW.lo (ls2 := [(0, _), (1, _)]) rfl ?_
  subst hM
  refine a_iload_n C0 1 dX6_isOne_0 rfl rfl ?_
  refine a_if_lt C0 18 dX6_isOne_1 rfl (fun h1 => ?_) (fun h1 => ?_)
  · refine a_iconst C0 0 dX6_isOne_18 rfl ?_
    refine a_zret C0 hr rfl dX6_isOne_19 ?_
    refine rt_ ?_
    have t8 := rp.t8
    have hs : mkM O S X 1 0 = nI nT := rp.n2
    first
      | (have h11 := h11
         rw [hs] at h11
         exact (bI_t ((isTl_in rp.w).mpr (vp_in_of2 h1 (Int32.not_le.mp h11) (by omega)))).symm)
      | exact (bI_f fun q => absurd q.1 (Int32.not_le.mpr h1)).symm
      | (have h11 := h11
         rw [hs] at h11
         refine (bI_f fun q => ?_).symm
         obtain ⟨jv, hjv, rfl⟩ := vp_in_of ((isTl_in rp.w).mp q) (by omega)
         exact absurd ((nI_leI (by omega) (by omega)).mp h11) (by omega))
  · refine a_iload_n C0 1 dX6_isOne_4 rfl rfl ?_
    refine a_aload_n C0 0 dX6_isOne_5 rfl rfl ?_
    refine g_X6_7 C0 (lt_b rfl) rfl rfl dX6_isOne_6 ?_
    refine a_iconst C0 0 dX6_isOne_9 rfl ?_
    refine a_iald C0 0 (lt_b rfl) rfl (vq rfl) rfl dX6_isOne_10 ?_
    refine a_icmp_ge C0 18 dX6_isOne_11 rfl (fun h11 => ?_) (fun h11 => ?_)
    · refine a_iconst C0 0 dX6_isOne_18 rfl ?_
      refine a_zret C0 hr rfl dX6_isOne_19 ?_
      refine rt_ ?_
      have t8 := rp.t8
      have hs : mkM O S X 1 0 = nI nT := rp.n2
      first
        | (have h11 := h11
           rw [hs] at h11
           exact (bI_t ((isTl_in rp.w).mpr (vp_in_of2 h1 (Int32.not_le.mp h11) (by omega)))).symm)
        | exact (bI_f fun q => absurd q.1 (Int32.not_le.mpr h1)).symm
        | (have h11 := h11
           rw [hs] at h11
           refine (bI_f fun q => ?_).symm
           obtain ⟨jv, hjv, rfl⟩ := vp_in_of ((isTl_in rp.w).mp q) (by omega)
           exact absurd ((nI_leI (by omega) (by omega)).mp h11) (by omega))
    · refine a_iconst C0 1 dX6_isOne_14 rfl ?_
      refine a_goto C0 19 dX6_isOne_15 rfl ?_
      refine a_zret C0 hr rfl dX6_isOne_19 ?_
      refine rt_ ?_
      have t8 := rp.t8
      have hs : mkM O S X 1 0 = nI nT := rp.n2
      first
        | (have h11 := h11
           rw [hs] at h11
           exact (bI_t ((isTl_in rp.w).mpr (vp_in_of2 h1 (Int32.not_le.mp h11) (by omega)))).symm)
        | exact (bI_f fun q => absurd q.1 (Int32.not_le.mpr h1)).symm
        | (have h11 := h11
           rw [hs] at h11
           refine (bI_f fun q => ?_).symm
           obtain ⟨jv, hjv, rfl⟩ := vp_in_of ((isTl_in rp.w).mp q) (by omega)
           exact absurd ((nI_leI (by omega) (by omega)).mp h11) (by omega))
set_option maxRecDepth 100000 in
set_option maxHeartbeats 4000000 in
theorem c_X6_its (l : Launch) (G : GE) {ad : Nat → Nat} {M : WM} {O S : RW} {X : WM} {P : WM} {nT mm : Nat} (rp : RP P S nT mm) {x k : Int32} {t j c : Nat} (hx : IX x t nT) (hk : IX k j 4) (hc : 4 + j = c) (hM : M = mkM O S X)  : CT l G yX6_its cX6_its 3 (some .int) 0 [.ref (ad 0), .int x, .int k] 14 ad (shM G ad) M (PI (fun r u => r = P c t ∧ u = mkM O S X)) := by
  refine CT.of (own := RX6) rfl rfl (le_b rfl) fun p e s m args below meth c A C0 hr => ?_
  refine AW.lo (ls2 := [(0, _), (1, _), (2, _)]) rfl ?_
  subst hM
  refine a_aload_n C0 0 dX6_its_0 rfl rfl ?_
  refine g_X6_7 C0 (lt_b rfl) rfl rfl dX6_its_1 ?_
  refine a_bipush C0 31 dX6_its_4 rfl ?_
  refine a_iconst C0 4 dX6_its_6 rfl ?_
  refine a_iload_n C0 1 dX6_its_7 rfl rfl ?_
  refine a_imul C0 dX6_its_8 ?_
  refine a_iadd C0 dX6_its_9 ?_
  refine a_iload_n C0 2 dX6_its_10 rfl rfl ?_
  refine a_iadd C0 dX6_its_11 ?_
  have hp := pl_ (hx.le rp.t8) hk
  refine a_iald C0 _ (lt_b rfl) rfl hp.1 hp.2 dX6_its_12 ?_
  refine a_iret C0 hr dX6_its_13 ?_
  exact rt_ (by rw [← hc]; exact rp.of t j hx.lt hk.lt)
set_option maxRecDepth 100000 in
set_option maxHeartbeats 4000000 in
theorem c_X6_becomes (l : Launch) (G : GE) {ad : Nat → Nat} {M : WM} {O S : RW} {X : WM} {x v : Int32} {q : Nat} (hx : IX x q 63) (hM : M = mkM O S X)  : CT l G yX6_becomes cX6_becomes 4 (some .int) 0 [.ref (ad 0), .int x, .int v] 14 ad (shM G ad) M (PI (fun r u => r = S q ∧ u = mkM O (upS S q v) X)) := by
  refine CT.of (own := RX6) rfl rfl (le_b rfl) fun p e s m args below meth c A C0 hr => ?_
  refine AW.lo (ls2 := [(0, _), (1, _), (2, _)]) rfl ?_
  subst hM
  refine a_aload_n C0 0 dX6_becomes_0 rfl rfl ?_
  refine g_X6_7 C0 (lt_b rfl) rfl rfl dX6_becomes_1 ?_
  refine a_iload_n C0 1 dX6_becomes_4 rfl rfl ?_
  refine a_iald C0 _ (lt_b rfl) rfl hx.1 hx.2 dX6_becomes_5 ?_
  refine a_istore_n (ls2 := [(3, _), (0, _), (1, _), (2, _)]) C0 dX6_becomes_6 rfl (lt_b rfl) rfl ?_
  refine a_aload_n C0 1 dX6_becomes_7 rfl rfl ?_
  refine g_X6_7 C0 (lt_b rfl) rfl rfl dX6_becomes_8 ?_
  refine a_iload_n C0 2 dX6_becomes_11 rfl rfl ?_
  refine a_iload_n C0 3 dX6_becomes_12 rfl rfl ?_
  refine a_iast C0 _ (lt_b rfl) (fun _ => rfl) hx.1 hx.2 dX6_becomes_13 ?_
  refine a_iload_n C0 0 dX6_becomes_14 rfl rfl ?_
  refine a_iret C0 hr dX6_becomes_15 ?_
  exact rd_ rfl mkM_S
def shC (G : GE) : SH := fun _ f => .inl (G.2.1 0, 63, .inl f)
def cp63 (a b : RW) : RW := fun k => if k < 63 then a k else b k
def cpW (M : WM) : WM := fun c => if c = 1 then cp63 (M 0) (M 1) else M c
def mkC (a b : RW) : WM := fun c => if c = 0 then a else b

set_option maxRecDepth 100000 in
set_option maxHeartbeats 4000000 in
theorem c_X6_copyRow (l : Launch) (G : GE) {ad : Nat → Nat} {M : WM}  : CT l G yX6_copyRow cX6_copyRow 3 none 0 [.ref (ad 0), .ref (ad 1)] 2 ad (shC G) M (PV (fun u => u = cpW M)) := by
  refine CT.of (own := RX6) rfl rfl (le_b rfl) fun p e s m args below meth c A C0 hr => ?_
  refine AW.lo (ls2 := [(0, _), (1, _)]) rfl ?_
  have lp : ∀ (n : Nat) (i : Nat) (xi : Int32) (M1 : WM), 63 - i < n → (i ≤ 63) → (xi = nI i) → (∀ c, c ≠ 1 → M1 c = M c) → (∀ k, M1 1 k = if k < i then M 0 k else M 1 k) → AW p l e (rmk 0) s m args below meth c G A 2 ad (shC G) 3 0 0 (MQ below (CQ G 2 ad (shC G) A (PV (fun u => u = cpW M))) args s 0 0 A) 2 [(0, .ref (ad 0)), (1, .ref (ad 1)), (2, .int xi)] [] M1 := by
    intro n
    induction n with
    | zero =>
      intro i xi M1 hn
      exact absurd hn (Nat.not_lt_zero _)
    | succ n ih =>
      intro i xi M1 hn hi hxi g0 g1
      refine a_iload_n C0 2 dX6_copyRow_2 rfl rfl ?_
      refine a_bipush C0 63 dX6_copyRow_3 rfl ?_
      refine a_icmp_ge C0 20 dX6_copyRow_5 rfl (fun h5 => ?_) (fun h5 => ?_)
      · refine a_vret C0 hr dX6_copyRow_20 ?_
        have e : i = 63 := Nat.le_antisymm hi (i_ge (T := 63) hxi rfl (by omega) (by omega) h5)
        subst e
        refine rv_ ?_
        funext c
        by_cases hc : c = 1
        · subst hc
          funext k
          rw [g1 k]
          rfl
        · rw [g0 c hc]
          exact (if_neg hc).symm
      · have hlt : i < 63 := i_lt (T := 63) hxi rfl (by omega) (by omega) h5
        have hx : IX xi i 63 := IX.eqn hxi hlt (by decide)
        refine a_aload_n C0 1 dX6_copyRow_8 rfl rfl ?_
        refine a_iload_n C0 2 dX6_copyRow_9 rfl rfl ?_
        refine a_aload_n C0 0 dX6_copyRow_10 rfl rfl ?_
        refine a_iload_n C0 2 dX6_copyRow_11 rfl rfl ?_
        refine a_iald C0 _ (lt_b rfl) rfl hx.1 hx.2 dX6_copyRow_12 ?_
        refine a_iast C0 _ (lt_b rfl) (fun _ => rfl) hx.1 hx.2 dX6_copyRow_13 ?_
        refine a_iinc (ls2 := [(2, _), (0, _), (1, _)]) C0 2 1 dX6_copyRow_14 rfl rfl (lt_b rfl) rfl ?_
        refine a_goto C0 2 dX6_copyRow_17 rfl ?_
        refine AW.sub (ls2 := [(0, _), (1, _), (2, _)]) [1, 2, 0] rfl ?_
        exact ih (i + 1) _ _ (by omega) hlt (by rw [hxi, nI_1]) (fun c hc => by
          rw [← g0 c hc]
          funext k
          exact if_neg hc) (fun k => by
          show (if k = i then M1 0 i else M1 1 k) = _
          rw [g1 k, g0 0 (by decide)]
          by_cases h1 : k = i
          · rw [if_pos h1, if_pos (by omega), h1]
          · rw [if_neg h1]
            by_cases h2 : k < i
            · rw [if_pos h2, if_pos (by omega)]
            · rw [if_neg h2, if_neg (by omega)])
  refine a_iconst C0 0 dX6_copyRow_0 rfl ?_
  refine a_istore_n (ls2 := [(2, _), (0, _), (1, _)]) C0 dX6_copyRow_1 rfl (lt_b rfl) rfl ?_
  refine AW.sub (ls2 := [(0, _), (1, _), (2, _)]) [1, 2, 0] rfl ?_
  exact lp 64 0 _ _ (by omega) (Nat.zero_le _) rfl (fun _ _ => rfl) (fun _ => (if_neg (Nat.not_lt_zero _)).symm)
theorem em_MC13 {G : GE} {ad : Nat → Nat} {O S : RW} {X : WM} : EM 14 2 ad (fun k => ad (io2 1 1 3 k)) (shM G ad) (shC G) (mkM O S X) (mkC S (X 3)) (fun u => mkM O (u 0) (stX X 3 (u 1))) := by
  refine ⟨io2 1 1 3, fun k hk => ⟨?_, rfl, ?_, ?_⟩, fun i j hi hj q => ?_, fun u => ⟨fun k hk => ?_, fun i hi h => ?_⟩⟩
  · unfold io2
    split <;> omega
  · match k, hk with
    | 0, _ => rfl
    | 1, _ => rfl
  · intro f
    match k, hk with
    | 0, _ => rfl
    | 1, _ => rfl
  · unfold io2 at q
    split at q <;> split at q <;> omega
  · match k, hk with
    | 0, _ => rfl
    | 1, _ => rfl
  · have h0 : 1 ≠ i := h 0 (by decide)
    have h1 : 3 ≠ i := h 1 (by decide)
    match i, hi, h0, h1 with
    | 0, _, _, _ => rfl
    | 1, _, h0, h1 => first | exact absurd rfl h0 | exact absurd rfl h1
    | 2, _, _, _ => rfl
    | 3, _, h0, h1 => first | exact absurd rfl h0 | exact absurd rfl h1
    | 4, _, _, _ => rfl
    | 5, _, _, _ => rfl
    | 6, _, _, _ => rfl
    | 7, _, _, _ => rfl
    | 8, _, _, _ => rfl
    | 9, _, _, _ => rfl
    | 10, _, _, _ => rfl
    | 11, _, _, _ => rfl
    | 12, _, _, _ => rfl
    | 13, _, _, _ => rfl
    | j + 14, hj, _, _ => exact absurd hj (by omega)

theorem em_MC31 {G : GE} {ad : Nat → Nat} {O S : RW} {X : WM} : EM 14 2 ad (fun k => ad (io2 3 1 1 k)) (shM G ad) (shC G) (mkM O S X) (mkC (X 3) S) (fun u => mkM O (u 1) (stX X 3 (u 0))) := by
  refine ⟨io2 3 1 1, fun k hk => ⟨?_, rfl, ?_, ?_⟩, fun i j hi hj q => ?_, fun u => ⟨fun k hk => ?_, fun i hi h => ?_⟩⟩
  · unfold io2
    split <;> omega
  · match k, hk with
    | 0, _ => rfl
    | 1, _ => rfl
  · intro f
    match k, hk with
    | 0, _ => rfl
    | 1, _ => rfl
  · unfold io2 at q
    split at q <;> split at q <;> omega
  · match k, hk with
    | 0, _ => rfl
    | 1, _ => rfl
  · have h0 : 3 ≠ i := h 0 (by decide)
    have h1 : 1 ≠ i := h 1 (by decide)
    match i, hi, h0, h1 with
    | 0, _, _, _ => rfl
    | 1, _, h0, h1 => first | exact absurd rfl h0 | exact absurd rfl h1
    | 2, _, _, _ => rfl
    | 3, _, h0, h1 => first | exact absurd rfl h0 | exact absurd rfl h1
    | 4, _, _, _ => rfl
    | 5, _, _, _ => rfl
    | 6, _, _, _ => rfl
    | 7, _, _, _ => rfl
    | 8, _, _, _ => rfl
    | 9, _, _, _ => rfl
    | 10, _, _, _ => rfl
    | 11, _, _, _ => rfl
    | 12, _, _, _ => rfl
    | 13, _, _, _ => rfl
    | j + 14, hj, _, _ => exact absurd hj (by omega)

theorem em_MC14 {G : GE} {ad : Nat → Nat} {O S : RW} {X : WM} : EM 14 2 ad (fun k => ad (io2 1 1 4 k)) (shM G ad) (shC G) (mkM O S X) (mkC S (X 4)) (fun u => mkM O (u 0) (stX X 4 (u 1))) := by
  refine ⟨io2 1 1 4, fun k hk => ⟨?_, rfl, ?_, ?_⟩, fun i j hi hj q => ?_, fun u => ⟨fun k hk => ?_, fun i hi h => ?_⟩⟩
  · unfold io2
    split <;> omega
  · match k, hk with
    | 0, _ => rfl
    | 1, _ => rfl
  · intro f
    match k, hk with
    | 0, _ => rfl
    | 1, _ => rfl
  · unfold io2 at q
    split at q <;> split at q <;> omega
  · match k, hk with
    | 0, _ => rfl
    | 1, _ => rfl
  · have h0 : 1 ≠ i := h 0 (by decide)
    have h1 : 4 ≠ i := h 1 (by decide)
    match i, hi, h0, h1 with
    | 0, _, _, _ => rfl
    | 1, _, h0, h1 => first | exact absurd rfl h0 | exact absurd rfl h1
    | 2, _, _, _ => rfl
    | 3, _, _, _ => rfl
    | 4, _, h0, h1 => first | exact absurd rfl h0 | exact absurd rfl h1
    | 5, _, _, _ => rfl
    | 6, _, _, _ => rfl
    | 7, _, _, _ => rfl
    | 8, _, _, _ => rfl
    | 9, _, _, _ => rfl
    | 10, _, _, _ => rfl
    | 11, _, _, _ => rfl
    | 12, _, _, _ => rfl
    | 13, _, _, _ => rfl
    | j + 14, hj, _, _ => exact absurd hj (by omega)

theorem em_MC41 {G : GE} {ad : Nat → Nat} {O S : RW} {X : WM} : EM 14 2 ad (fun k => ad (io2 4 1 1 k)) (shM G ad) (shC G) (mkM O S X) (mkC (X 4) S) (fun u => mkM O (u 1) (stX X 4 (u 0))) := by
  refine ⟨io2 4 1 1, fun k hk => ⟨?_, rfl, ?_, ?_⟩, fun i j hi hj q => ?_, fun u => ⟨fun k hk => ?_, fun i hi h => ?_⟩⟩
  · unfold io2
    split <;> omega
  · match k, hk with
    | 0, _ => rfl
    | 1, _ => rfl
  · intro f
    match k, hk with
    | 0, _ => rfl
    | 1, _ => rfl
  · unfold io2 at q
    split at q <;> split at q <;> omega
  · match k, hk with
    | 0, _ => rfl
    | 1, _ => rfl
  · have h0 : 4 ≠ i := h 0 (by decide)
    have h1 : 1 ≠ i := h 1 (by decide)
    match i, hi, h0, h1 with
    | 0, _, _, _ => rfl
    | 1, _, h0, h1 => first | exact absurd rfl h0 | exact absurd rfl h1
    | 2, _, _, _ => rfl
    | 3, _, _, _ => rfl
    | 4, _, h0, h1 => first | exact absurd rfl h0 | exact absurd rfl h1
    | 5, _, _, _ => rfl
    | 6, _, _, _ => rfl
    | 7, _, _, _ => rfl
    | 8, _, _, _ => rfl
    | 9, _, _, _ => rfl
    | 10, _, _, _ => rfl
    | 11, _, _, _ => rfl
    | 12, _, _, _ => rfl
    | 13, _, _, _ => rfl
    | j + 14, hj, _, _ => exact absurd hj (by omega)

