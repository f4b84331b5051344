theorem wb_tb (n : Nat) : (lN n).toBitVec = BitVec.ofNat 64 n := rfl
theorem wb_inj {a b : Int64} (h : a.toBitVec = b.toBitVec) : a = b := Int64.toBitVec_inj.mp h
theorem wb_tn {n : Nat} (h : n < 2 ^ 64) : (lN n).toBitVec.toNat = n := by rw [wb_tb, BitVec.toNat_ofNat, Nat.mod_eq_of_lt h]
theorem wb_of (x : Int64) : ∃ n, n < 2 ^ 64 ∧ x = lN n := ⟨x.toBitVec.toNat, x.toBitVec.isLt, wb_inj (by rw [wb_tb]; simp)⟩
theorem wb_of32 (x : Int32) : ∃ n, n < 2 ^ 32 ∧ x = nI n := ⟨x.toBitVec.toNat, x.toBitVec.isLt, Int32.toBitVec_inj.mp (by show _ = BitVec.ofNat 32 _; simp)⟩
theorem wb_c : ∀ k, k < 64 → ((nI k).toInt64 &&& 63) = lN k := by decide +kernel
theorem wb_cu : ∀ k, k < 64 → ((nI k).toInt64.toUInt64 &&& Int64.toUInt64 63) = UInt64.ofNat k := by decide +kernel
theorem wb_sm : ∀ k, k < 64 → (BitVec.ofNat 64 k).smod 64 = BitVec.ofNat 64 k := by decide +kernel
theorem wb_pw {a b : Nat} (h : a ≤ b) : 2 ^ b = 2 ^ a * 2 ^ (b - a) := by rw [← Nat.pow_add]; congr 1; omega
theorem wb_lt2 {a b : Nat} (h : a < b) : 2 ^ a < 2 ^ b := Nat.pow_lt_pow_right (by decide) h
theorem wb_mod (n : Nat) : lN n = lN (n % 2 ^ 64) := wb_inj (by rw [wb_tb, wb_tb]; apply BitVec.eq_of_toNat_eq; rw [BitVec.toNat_ofNat, BitVec.toNat_ofNat, Nat.mod_mod])
theorem wb_shr {n k : Nat} (hn : n < 2 ^ 64) (hk : k < 64) : ((lN n).toUInt64 >>> ((nI k).toInt64.toUInt64 &&& Int64.toUInt64 63)).toInt64 = lN (n / 2 ^ k) := by
  rw [wb_cu k hk]
  apply wb_inj
  apply BitVec.eq_of_toNat_eq
  show ((lN n).toUInt64 >>> UInt64.ofNat k).toNat = (BitVec.ofNat 64 _).toNat
  have h1 : (UInt64.ofNat k).toNat = k := by
    show (BitVec.ofNat 64 k).toNat = k
    rw [BitVec.toNat_ofNat, Nat.mod_eq_of_lt (by omega)]
  have h2 : (lN n).toUInt64.toNat = n := wb_tn hn
  rw [UInt64.toNat_shiftRight, h1, h2, Nat.mod_eq_of_lt hk, Nat.shiftRight_eq_div_pow, BitVec.toNat_ofNat, Nat.mod_eq_of_lt (Nat.lt_of_le_of_lt (Nat.div_le_self _ _) hn)]
theorem wb_shl (n : Nat) {k : Nat} (hk : k < 64) : lN n <<< ((nI k).toInt64 &&& 63) = lN (n * 2 ^ k) := by
  rw [wb_c k hk]
  apply wb_inj
  rw [Int64.toBitVec_shiftLeft, wb_tb, wb_tb, wb_tb, wb_sm k hk]
  apply BitVec.eq_of_toNat_eq
  rw [BitVec.shiftLeft_eq', BitVec.toNat_shiftLeft, BitVec.toNat_ofNat, BitVec.toNat_ofNat, BitVec.toNat_ofNat, Nat.mod_eq_of_lt (show k < 2 ^ 64 by omega), Nat.shiftLeft_eq, Nat.mul_mod, Nat.mod_mod, ← Nat.mul_mod]
theorem wb_and {a b : Nat} (ha : a < 2 ^ 64) (hb : b < 2 ^ 64) : lN a &&& lN b = lN (a &&& b) := by
  apply wb_inj
  rw [Int64.toBitVec_and, wb_tb, wb_tb, wb_tb]
  apply BitVec.eq_of_toNat_eq
  rw [BitVec.toNat_and, BitVec.toNat_ofNat, BitVec.toNat_ofNat, BitVec.toNat_ofNat, Nat.mod_eq_of_lt ha, Nat.mod_eq_of_lt hb, Nat.mod_eq_of_lt (Nat.and_lt_two_pow _ hb)]
theorem wb_or {a b : Nat} (ha : a < 2 ^ 64) (hb : b < 2 ^ 64) : lN a ||| lN b = lN (a ||| b) := by
  apply wb_inj
  rw [Int64.toBitVec_or, wb_tb, wb_tb, wb_tb]
  apply BitVec.eq_of_toNat_eq
  rw [BitVec.toNat_or, BitVec.toNat_ofNat, BitVec.toNat_ofNat, BitVec.toNat_ofNat, Nat.mod_eq_of_lt ha, Nat.mod_eq_of_lt hb, Nat.mod_eq_of_lt (Nat.or_lt_two_pow ha hb)]
theorem wb_mask {n k : Nat} (hn : n < 2 ^ 64) (hk : k < 64) : lN n &&& lN (2 ^ k - 1) = lN (n % 2 ^ k) := by
  rw [wb_and hn (by have := wb_lt2 hk; omega), Nat.and_two_pow_sub_one_eq_mod]


theorem bv_255 : ∀ i, i < 64 → 8 ≤ i → (255#64).getLsbD i = false := by decide +kernel
theorem bv_sa (x : BitVec 64) {s : Nat} (hs : s ≤ 56) : x.sshiftRight s &&& 255#64 = (x >>> s) &&& 255#64 := by
  refine BitVec.eq_of_getLsbD_eq fun i hi => ?_
  rw [BitVec.getLsbD_and, BitVec.getLsbD_and]
  by_cases h : i < 8
  · congr 1
    rw [BitVec.getLsbD_sshiftRight, BitVec.getLsbD_ushiftRight]
    have h1 : s + i < 64 := by omega
    simp [h1, hi]
  · rw [bv_255 i hi (by omega), Bool.and_false, Bool.and_false]
theorem sh_t : ∀ k, k < 8 → (((8 * nI k).toInt64 &&& 63).toBitVec.smod 64).toNat = 8 * k := by decide +kernel
theorem sh_u : ∀ k, k < 8 → (((8 * nI k).toInt64.toUInt64 &&& Int64.toUInt64 63).toBitVec % 64#64).toNat = 8 * k := by decide +kernel
theorem sh_and {v : Int64} {k : Nat} (hk : k < 8) : (v >>> ((8 * nI k).toInt64 &&& 63)) &&& 255 = (v.toUInt64 >>> ((8 * nI k).toInt64.toUInt64 &&& Int64.toUInt64 63)).toInt64 &&& 255 := by
  apply Int64.toBitVec_inj.mp
  show v.toBitVec.sshiftRight (((8 * nI k).toInt64 &&& 63).toBitVec.smod 64).toNat &&& 255#64 = v.toBitVec >>> (((8 * nI k).toInt64.toUInt64 &&& Int64.toUInt64 63).toBitVec % 64#64).toNat &&& 255#64
  rw [sh_t k hk, sh_u k hk]
  exact bv_sa _ (by omega)
theorem by_t : ∀ m, m < 256 → (0 ≤ (nI m).toInt8.toInt32 ∧ (nI m).toInt8.toInt32 ≤ 127 ∧ nI m = (nI m).toInt8.toInt32) ∨ ((nI m).toInt8.toInt32 < 0 ∧ 128 ≤ nI m) := by decide +kernel
theorem i8_mod (M : Nat) : (nI M).toInt8 = (nI (M % 256)).toInt8 := by
  apply Int8.toBitVec_inj.mp
  show (BitVec.ofNat 32 M).signExtend 8 = (BitVec.ofNat 32 (M % 256)).signExtend 8
  rw [BitVec.signExtend_eq_setWidth_of_le _ (by decide), BitVec.signExtend_eq_setWidth_of_le _ (by decide)]
  apply BitVec.eq_of_toNat_eq
  simp only [BitVec.toNat_setWidth, BitVec.toNat_ofNat]
  omega
theorem i8_i8 (x : Int32) : x.toInt8.toInt32.toInt8 = x.toInt8 := by
  apply Int8.toBitVec_inj.mp
  show (x.toInt8.toBitVec.signExtend 32).signExtend 8 = x.toInt8.toBitVec
  rw [BitVec.signExtend_eq_setWidth_of_le _ (by decide)]
  refine BitVec.eq_of_getLsbD_eq fun i hi => ?_
  rw [BitVec.getLsbD_setWidth, BitVec.getLsbD_signExtend]
  simp [hi, show i < 32 by omega]
/-- a byte of the eight, in the class and in the model -/
theorem by_by {v : Int64} {k : Nat} (hk : k < 8) : ∃ m, m < 256 ∧ (byT v k).toInt8.toInt32 = (nI m).toInt8.toInt32 ∧ ((v >>> ((8 * nI k).toInt64 &&& 63)) &&& 255).toInt32 = nI m := by
  obtain ⟨n, hn, rfl⟩ := wb_of v
  have e : (8 : Int32) * nI k = nI (8 * k) := pk_mul 8 k
  refine ⟨n / 2 ^ (8 * k) % 256, Nat.mod_lt _ (by decide), ?_, ?_⟩
  · unfold byT
    rw [i8_i8, e, wb_shr hn (by omega), lN_i, i8_mod]
  · rw [sh_and hk, e, wb_shr hn (by omega), show (255 : Int64) = lN (2 ^ 8 - 1) from rfl, wb_mask (Nat.lt_of_le_of_lt (Nat.div_le_self _ _) hn) (by decide), lN_i]
/-- the class's Tape and the model's -/
def TR (B : WM) (O : RW) (X : WM) (n : Nat) : Prop := B 0 1 = nI n ∧ BT O X (B 1) n

set_option maxRecDepth 100000 in
set_option maxHeartbeats 4000000 in
theorem c_X6_feed (l : Launch) (G : GE) {ad : Nat → Nat} {M : WM} {O S : RW} {X : WM} {v : Int64} {y : Int32} {B : WM} {bn : Nat} (h0 : TR B O X bn) (hM : M = mkM O S X)  : CT l G yX6_feed cX6_feed 5 (some .int) 1 [.ref (ad 0), .long v, .int y] 14 ad (shM G ad) M (PI (fun r u => r = feeR B y ∧ ∃ O' X', u = mkM O' S X' ∧ (∀ j, j ≠ 6 → O' j = O j) ∧ (∀ c, c ≠ 5 → X' c = X c) ∧ ∃ n', TR (feeW B bn v y) O' X' n')) := by
  refine CT.of (own := RX6) rfl rfl (le_b rfl) fun p e s m args below meth c A C0 hr => ?_
  refine AW.lo (ls2 := [(0, _), (1, _), (3, _)]) rfl ?_
  subst hM
  have lp : ∀ (n : Nat) (i : Nat) (xi : Int32) (O1 : RW) (X1 : WM), ix y - i < n → (i ≤ ix y) → (xi = nI i) → ((1 ≤ y ∧ y ≤ 8)) → (B 0 1 + y ≤ 200) → (∀ j, j ≠ 6 → O1 j = O j) → (∀ c, c ≠ 5 → X1 c = X c) → (TR (feeB B bn v i) O1 X1 (bn + i)) → AW p l e (rmk 1) s m args below meth c G A 14 ad (shM G ad) 5 0 0 (MQ below (CQ G 14 ad (shM G ad) A (PI (fun r u => r = feeR B y ∧ ∃ O' X', u = mkM O' S X' ∧ (∀ j, j ≠ 6 → O' j = O j) ∧ (∀ c, c ≠ 5 → X' c = X c) ∧ ∃ n', TR (feeW B bn v y) O' X' n'))) args s 0 0 A) 32 [(0, .ref (ad 0)), (1, .long v), (3, .int y), (4, .int xi)] [] (mkM O1 S X1) := by
    intro n
    induction n with
    | zero =>
      intro i xi O1 X1 hn
      exact absurd hn (Nat.not_lt_zero _)
    | succ n ih =>
      intro i xi O1 X1 hn hi hxi hc hr2 gO gX tr1
      have ey : y = nI (ix y) := (IX.v (in_of (n := 8) (by decide) ⟨Int32.le_trans (by decide) hc.1, hc.2⟩)).eq (by decide)
      have hy8 : ix y ≤ 8 := by
        have := vp_lt (in_of (n := 8) (by decide) ⟨Int32.le_trans (by decide) hc.1, hc.2⟩)
        omega
      have hle : bn + ix y ≤ 200 := by
        have q := hr2
        rw [h0.1, ey, nI_add] at q
        exact leN (b := 200) q (by have := h0.2.2.1; omega) (by decide)
      refine a_iload C0 3 dX6_feed_32 rfl ?_
      refine a_iload_n C0 2 dX6_feed_34 rfl rfl ?_
      refine a_icmp_ge C0 75 dX6_feed_35 rfl (fun h35 => ?_) (fun h35 => ?_)
      · refine a_aload_n C0 0 dX6_feed_75 rfl rfl ?_
        refine g_X6_58 C0 (lt_b rfl) rfl rfl dX6_feed_76 ?_
        refine a_iret C0 hr dX6_feed_79 ?_
        have e : i = ix y := Nat.le_antisymm hi (i_geY hxi (Nat.lt_of_le_of_lt hi (ix_lt _)) h35)
        subst e
        refine ⟨_, rfl, ?_, O1, X1, rfl, gO, gX, bn + ix y, ?_⟩
        · unfold feeR
          rw [if_pos hc, if_pos hr2]
          show O1 6 = _
          rw [tr1.2.1, h0.1, ← nI_add, ← ey]
        · unfold feeW
          rw [if_pos hc, if_pos hr2]
          exact tr1
      · have hlt : i < ix y := i_ltY hxi (Nat.lt_of_le_of_lt hi (ix_lt _)) h35
        have hx : IX (O1 6) (bn + i) 200 := IX.eqn tr1.2.1 (by omega) (by decide)
        refine a_aload_n C0 0 dX6_feed_38 rfl rfl ?_
        refine g_X6_22 C0 (lt_b rfl) rfl rfl dX6_feed_39 ?_
        refine a_aload_n C0 0 dX6_feed_42 rfl rfl ?_
        refine g_X6_58 C0 (lt_b rfl) rfl rfl dX6_feed_43 ?_
        refine a_lload_n C0 1 dX6_feed_46 rfl rfl ?_
        refine a_bipush C0 8 dX6_feed_47 rfl ?_
        refine a_iload C0 3 dX6_feed_49 rfl ?_
        refine a_imul C0 dX6_feed_51 ?_
        refine a_lshr C0 dX6_feed_52 ?_
        refine a_ldc2 C0 dX6_feed_53 u_k_X6_62 ?_
        refine a_land C0 dX6_feed_56 ?_
        refine a_l2i C0 dX6_feed_57 ?_
        refine a_iast C0 _ (lt_b rfl) (fun _ => rfl) hx.1 rfl dX6_feed_58 ?_
        refine a_aload_n C0 0 dX6_feed_59 rfl rfl ?_
        refine a_dup C0 dX6_feed_60 rfl ?_
        refine g_X6_58 C0 (lt_b rfl) rfl rfl dX6_feed_61 ?_
        refine a_iconst C0 1 dX6_feed_64 rfl ?_
        refine a_iadd C0 dX6_feed_65 ?_
        refine p_X6_58 C0 (lt_b rfl) rfl (lt_b rfl) rfl rfl dX6_feed_66 ?_
        refine a_iinc (ls2 := [(4, _), (0, _), (1, _), (3, _)]) C0 3 1 dX6_feed_69 rfl rfl (lt_b rfl) rfl ?_
        refine a_goto C0 32 dX6_feed_72 rfl ?_
        refine AW.sub (ls2 := [(0, _), (1, _), (3, _), (4, _)]) [1, 2, 3, 0] rfl ?_
        rw [mkM_X (by decide), mkM_O]
        exact ih (i + 1) _ _ _ (by omega) hlt (by rw [hxi, nI_1]) hc hr2 (fun j hj => (up_ne hj).trans (gO j hj)) (fun c hc5 => by
          rw [← gX c hc5]
          funext k
          exact if_neg hc5) (by
          obtain ⟨t1, t2, t3, t4⟩ := tr1
          obtain ⟨m, hm, e1, e2⟩ := by_by (v := v) (k := i) (by omega)
          refine ⟨fee_n h0.1 (i + 1), ?_, by omega, fun q hq => ?_⟩
          · show O1 6 + 1 = _
            rw [t2, nI_1]
            rfl
          · have ek : ix (O1 6) = bn + i := hx.2
            have ex : (up2 X1 5 (ix (O1 6)) (((v >>> ((8 * xi).toInt64 &&& 63)) &&& 255).toInt32)) 5 q = if q = bn + i then nI m else X1 5 q := by
              show (if q = ix (O1 6) then _ else X1 5 q) = _
              rw [ek, hxi, e2]
            have eb : feeB B bn v (i + 1) 1 q = if q = bn + i then (nI m).toInt8.toInt32 else feeB B bn v i 1 q := by
              show (if q = bn + i then _ else feeB B bn v i 1 q) = _
              rw [e1]
            show (0 ≤ feeB B bn v (i + 1) 1 q ∧ feeB B bn v (i + 1) 1 q ≤ 127 ∧ (up2 X1 5 (ix (O1 6)) (((v >>> ((8 * xi).toInt64 &&& 63)) &&& 255).toInt32)) 5 q = feeB B bn v (i + 1) 1 q) ∨ (feeB B bn v (i + 1) 1 q < 0 ∧ 128 ≤ (up2 X1 5 (ix (O1 6)) (((v >>> ((8 * xi).toInt64 &&& 63)) &&& 255).toInt32)) 5 q)
            rw [ex, eb]
            by_cases c : q = bn + i
            · rw [if_pos c, if_pos c]
              exact by_t m hm
            · rw [if_neg c, if_neg c]
              exact t4 q (by omega))
  refine a_iload_n C0 2 dX6_feed_0 rfl rfl ?_
  refine a_i2l C0 dX6_feed_1 ?_
  refine a_lconst C0 1 dX6_feed_2 rfl ?_
  refine a_ldc2 C0 dX6_feed_3 u_k_X6_52 ?_
  refine a_callS _ 3 C0 EM.z (c_X6_isIn l G (w2 := 1) (w3 := 8) rfl rfl rfl) u_c_X6_isIn u_m_X6_54 u_st_X6_isIn u_in_X6 hy_X6_isIn.2 (hRk rfl) rfl rfl (le_b rfl) dX6_feed_6 (k_ro EM.z ?_)
  refine a_if_neb C0 14 dX6_feed_9 rfl (fun h9 => ?_) (fun h9 => ?_)
  · have e6 : O 6 = B 0 1 := h0.2.1.trans h0.1.symm
    refine a_aload_n C0 0 dX6_feed_14 rfl rfl ?_
    refine g_X6_58 C0 (lt_b rfl) rfl rfl dX6_feed_15 ?_
    refine a_iload_n C0 2 dX6_feed_18 rfl rfl ?_
    refine a_iadd C0 dX6_feed_19 ?_
    refine a_sipush C0 200 dX6_feed_20 rfl ?_
    refine a_icmp_le C0 29 dX6_feed_23 rfl (fun h23 => ?_) (fun h23 => ?_)
    · have hr2 : B 0 1 + y ≤ 200 := by rw [← e6]; exact h23
      refine a_iconst C0 0 dX6_feed_29 rfl ?_
      refine a_istore (ls2 := [(4, _), (0, _), (1, _), (3, _)]) C0 dX6_feed_30 (lt_b rfl) rfl ?_
      refine AW.sub (ls2 := [(0, _), (1, _), (3, _), (4, _)]) [1, 2, 3, 0] rfl ?_
      exact lp (ix y + 1) 0 _ _ _ (by omega) (Nat.zero_le _) rfl h9 hr2 (fun _ _ => rfl) (fun _ _ => rfl) h0
    · refine a_bipush C0 (-2) dX6_feed_26 rfl ?_
      refine a_iret C0 hr dX6_feed_28 ?_
      have h24 : ¬ B 0 1 + y ≤ 200 := by rw [← e6]; exact h23
      exact ⟨_, rfl, by unfold feeR; rw [if_pos h9, if_neg h24], O, X, rfl, fun _ _ => rfl, fun _ _ => rfl, bn, by unfold feeW; rw [if_pos h9, if_neg h24]; exact h0⟩
  · refine a_iconst C0 (-1) dX6_feed_12 rfl ?_
    refine a_iret C0 hr dX6_feed_13 ?_
    exact ⟨_, rfl, by unfold feeR; rw [if_neg h9], O, X, rfl, fun _ _ => rfl, fun _ _ => rfl, bn, by unfold feeW; rw [if_neg h9]; exact h0⟩
