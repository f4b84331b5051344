
/-- an int as a place among n -/
def IX (x : Int32) (t n : Nat) : Prop := vp_in x n ∧ x.toNatClampNeg = t
theorem IX.n {i n : Nat} (h : i < n) (hn : n < 2 ^ 31) : IX (nI i) i n := ⟨vp_in_nI h hn, nI_clamp (Nat.lt_trans h hn)⟩
theorem IX.v {x : Int32} {n : Nat} (h : vp_in x n) : IX x (ix x) n := ⟨h, rfl⟩
theorem IX.lt {x : Int32} {t n : Nat} (h : IX x t n) : t < n := by
  rw [← h.2]
  exact Nat.not_le.mp fun q => h.1 (Or.inr q)
theorem IX.eq {x : Int32} {t n : Nat} (h : IX x t n) (hn : n < 2 ^ 31) : x = nI t := by
  obtain ⟨j, hj, rfl⟩ := vp_in_of h.1 hn
  have := h.2
  rw [nI_clamp (Nat.lt_trans hj hn)] at this
  rw [this]
theorem IX.eqn {x : Int32} {i n : Nat} (h : x = nI i) (hi : i < n) (hn : n < 2 ^ 31) : IX x i n := by
  rw [h]
  exact IX.n hi hn
theorem vp_lt {x : Int32} {n : Nat} (h : vp_in x n) : ix x < n := (IX.v h).lt
theorem rv_ {M u : WM} (h : u = M) : PV (fun u => u = M) none u := ⟨rfl, h⟩
theorem rd_ {v e : Int32} {M u : WM} (h : v = e) (h2 : u = M) : PI (fun r u => r = e ∧ u = M) (some (.int v)) u := ⟨v, rfl, h, h2⟩
/-- a loop's test, i against T -/
theorem i_ge {x y : Int32} {i T : Nat} (hx : x = nI i) (hy : y = nI T) (hi : i < 2 ^ 31) (hT : T < 2 ^ 31) (h : y ≤ x) : T ≤ i := by
  subst hx; subst hy
  exact (nI_leI hT hi).mp h
theorem i_lt {x y : Int32} {i T : Nat} (hx : x = nI i) (hy : y = nI T) (hi : i < 2 ^ 31) (hT : T < 2 ^ 31) (h : ¬ y ≤ x) : i < T := by
  subst hx; subst hy
  exact Nat.not_le.mp fun q => h ((nI_leI hT hi).mpr q)
def ushr (x k : Int32) : Int32 := (x.toUInt32 >>> (k.toUInt32 &&& Int32.toUInt32 31)).toInt32
def rm (x y : Int32) : Int32 := x - x / y * y
/-- Integer.bitCount, as its code says -/
def bc1 (x : Int32) : Int32 := x - (ushr x 1 &&& 1431655765)
def bc2 (x : Int32) : Int32 := (x &&& 858993459) + (ushr x 2 &&& 858993459)
def bc4 (x : Int32) : Int32 := (x + ushr x 4) &&& 252645135
def bcS (x : Int32) : Int32 := (bc4 (bc2 (bc1 x)) + ushr (bc4 (bc2 (bc1 x))) 8 + ushr (bc4 (bc2 (bc1 x)) + ushr (bc4 (bc2 (bc1 x))) 8) 16) &&& 63
/-! a Parish (its eight cells), as each method leaves it -/
def bringP (P : WM) (t : Nat) (h : Int32) : WM := up2 (up2 P 6 t h) 7 t (P 7 t ||| 1 <<< (h &&& 31))
def coolsP (P : WM) (t : Nat) : Int32 :=
  if P 4 t = 1 then P 1 0 - 1 else if P 4 t = 2 then P 1 0 * 2 else if P 4 t = 3 then P 1 0 - 1 - P 1 1 else if P 4 t = 4 then P 1 0 * 2 + bcS (P 7 t) else if P 4 t = 5 then (if P 5 t ≤ P 1 2 then P 1 0 else -1) else P 1 0
def doorsP (P : WM) (t : Nat) : Int32 :=
  if P 4 t = 2 then 2 else if P 4 t = 3 then 2 else if P 4 t = 4 then 2 - rm (P 0 9) 2 else if P 4 t = 5 then (if rm (P 0 9) 3 = 0 then 1 else 0) else 1
abbrev boxP (P : WM) (h : Int32) : Prop := (P 0 7 >>> (h &&& 31)) &&& 1 = 1
def sumP (g : Nat → Int32) : Nat → Int32
  | 0 => 0
  | k + 1 => sumP g k + g k
def orP (g : Nat → Int32) : Nat → Int32
  | 0 => 0
  | k + 1 => orP g k ||| g k
def orC (c : Nat → Bool) (g : Nat → Int32) : Nat → Int32
  | 0 => 0
  | k + 1 => if c k = true then orC c g k ||| g k else orC c g k
def bitI (k : Nat) : Int32 := 1 <<< (nI k &&& 31)
def lpP (P : WM) : Nat → Int32 → Int32 → Int32
  | 0, s, _ => s
  | n + 1, s, h => lpP P n (s ||| 1 <<< (h &&& 31)) (P 2 (ix h))
def addP (P : WM) (t : Nat) (k h a : Int32) : WM := up2 (up2 (up2 (up2 (up2 P 4 t k) 5 t h) 6 t a) 7 t (1 <<< (a &&& 31))) 0 8 (P 0 8 + 1)
def drawZ (z : Int32) : Int32 := z * 1103515245 + 12345

set_option maxRecDepth 100000 in
set_option maxHeartbeats 4000000 in
theorem c_J6_bitCount_0f7a4 (l : Launch) (G : GE) {ad : Nat → Nat} {M : WM} {v : Int32} : CT l G yJ6_bitCount_0f7a4 cJ6_bitCount_0f7a4 1 (some .int) 0 [.int v] 0 ad sh0 M (PI (fun r u => r = bcS v ∧ u = M)) := by
  refine CT.of (own := RJ6) rfl rfl (le_b rfl) fun p e s m args below meth c A C0 hr => ?_
  refine AW.lo (ls2 := [(0, _)]) rfl ?_
  refine a_iload_n C0 0 dJ6_bitCount_0f7a4_0 rfl rfl ?_
  refine a_iload_n C0 0 dJ6_bitCount_0f7a4_1 rfl rfl ?_
  refine a_iconst C0 1 dJ6_bitCount_0f7a4_2 rfl ?_
  refine a_iushr C0 dJ6_bitCount_0f7a4_3 ?_
  refine a_ldcw C0 dJ6_bitCount_0f7a4_4 u_k_J6_265 ?_
  refine a_iand C0 dJ6_bitCount_0f7a4_7 ?_
  refine a_isub C0 dJ6_bitCount_0f7a4_8 ?_
  refine a_istore_n (ls2 := [(0, _)]) C0 dJ6_bitCount_0f7a4_9 rfl (lt_b rfl) rfl ?_
  refine a_iload_n C0 0 dJ6_bitCount_0f7a4_10 rfl rfl ?_
  refine a_ldcw C0 dJ6_bitCount_0f7a4_11 u_k_J6_266 ?_
  refine a_iand C0 dJ6_bitCount_0f7a4_14 ?_
  refine a_iload_n C0 0 dJ6_bitCount_0f7a4_15 rfl rfl ?_
  refine a_iconst C0 2 dJ6_bitCount_0f7a4_16 rfl ?_
  refine a_iushr C0 dJ6_bitCount_0f7a4_17 ?_
  refine a_ldcw C0 dJ6_bitCount_0f7a4_18 u_k_J6_266 ?_
  refine a_iand C0 dJ6_bitCount_0f7a4_21 ?_
  refine a_iadd C0 dJ6_bitCount_0f7a4_22 ?_
  refine a_istore_n (ls2 := [(0, _)]) C0 dJ6_bitCount_0f7a4_23 rfl (lt_b rfl) rfl ?_
  refine a_iload_n C0 0 dJ6_bitCount_0f7a4_24 rfl rfl ?_
  refine a_iload_n C0 0 dJ6_bitCount_0f7a4_25 rfl rfl ?_
  refine a_iconst C0 4 dJ6_bitCount_0f7a4_26 rfl ?_
  refine a_iushr C0 dJ6_bitCount_0f7a4_27 ?_
  refine a_iadd C0 dJ6_bitCount_0f7a4_28 ?_
  refine a_ldcw C0 dJ6_bitCount_0f7a4_29 u_k_J6_267 ?_
  refine a_iand C0 dJ6_bitCount_0f7a4_32 ?_
  refine a_istore_n (ls2 := [(0, _)]) C0 dJ6_bitCount_0f7a4_33 rfl (lt_b rfl) rfl ?_
  refine a_iload_n C0 0 dJ6_bitCount_0f7a4_34 rfl rfl ?_
  refine a_iload_n C0 0 dJ6_bitCount_0f7a4_35 rfl rfl ?_
  refine a_bipush C0 8 dJ6_bitCount_0f7a4_36 rfl ?_
  refine a_iushr C0 dJ6_bitCount_0f7a4_38 ?_
  refine a_iadd C0 dJ6_bitCount_0f7a4_39 ?_
  refine a_istore_n (ls2 := [(0, _)]) C0 dJ6_bitCount_0f7a4_40 rfl (lt_b rfl) rfl ?_
  refine a_iload_n C0 0 dJ6_bitCount_0f7a4_41 rfl rfl ?_
  refine a_iload_n C0 0 dJ6_bitCount_0f7a4_42 rfl rfl ?_
  refine a_bipush C0 16 dJ6_bitCount_0f7a4_43 rfl ?_
  refine a_iushr C0 dJ6_bitCount_0f7a4_45 ?_
  refine a_iadd C0 dJ6_bitCount_0f7a4_46 ?_
  refine a_istore_n (ls2 := [(0, _)]) C0 dJ6_bitCount_0f7a4_47 rfl (lt_b rfl) rfl ?_
  refine a_iload_n C0 0 dJ6_bitCount_0f7a4_48 rfl rfl ?_
  refine a_bipush C0 63 dJ6_bitCount_0f7a4_49 rfl ?_
  refine a_iand C0 dJ6_bitCount_0f7a4_51 ?_
  refine a_iret C0 hr dJ6_bitCount_0f7a4_52 ?_
  exact rt_ rfl
set_option maxRecDepth 100000 in
set_option maxHeartbeats 4000000 in
theorem c_X1_bring (l : Launch) (G : GE) {ad : Nat → Nat} {M : WM} {x h : Int32} {t : Nat} (hx : IX x t 8) : CT l G yX1_bring cX1_bring 3 none 0 [.ref (ad 0), .int x, .int h] 8 ad (shP G ad) M (PV (fun u => u = bringP M t h)) := by
  refine CT.of (own := RX1) rfl rfl (le_b rfl) fun p e s m args below meth c A C0 hr => ?_
  refine AW.lo (ls2 := [(0, _), (1, _), (2, _)]) rfl ?_
  refine a_aload_n C0 0 dX1_bring_0 rfl rfl ?_
  refine g_X1_27 C0 (lt_b rfl) rfl rfl dX1_bring_1 ?_
  refine a_iload_n C0 1 dX1_bring_4 rfl rfl ?_
  refine a_iload_n C0 2 dX1_bring_5 rfl rfl ?_
  refine a_iast C0 _ (lt_b rfl) (fun _ => rfl) hx.1 hx.2 dX1_bring_6 ?_
  refine a_aload_n C0 0 dX1_bring_7 rfl rfl ?_
  refine g_X1_30 C0 (lt_b rfl) rfl rfl dX1_bring_8 ?_
  refine a_iload_n C0 1 dX1_bring_11 rfl rfl ?_
  refine a_dup2 C0 dX1_bring_12 rfl rfl ?_
  refine a_iald C0 _ (lt_b rfl) rfl hx.1 hx.2 dX1_bring_13 ?_
  refine a_iconst C0 1 dX1_bring_14 rfl ?_
  refine a_iload_n C0 2 dX1_bring_15 rfl rfl ?_
  refine a_ishl C0 dX1_bring_16 ?_
  refine a_ior C0 dX1_bring_17 ?_
  refine a_iast C0 _ (lt_b rfl) (fun _ => rfl) hx.1 hx.2 dX1_bring_18 ?_
  refine a_vret C0 hr dX1_bring_19 ?_
  exact rv_ rfl
set_option maxRecDepth 100000 in
set_option maxHeartbeats 4000000 in
theorem c_X1_coolsOf (l : Launch) (G : GE) {ad : Nat → Nat} {M : WM} {x : Int32} {t : Nat} (hx : IX x t 8) : CT l G yX1_coolsOf cX1_coolsOf 3 (some .int) 1 [.ref (ad 0), .int x] 8 ad (shP G ad) M (PI (fun r u => r = coolsP M t ∧ u = M)) := by
  refine CT.of (own := RX1) rfl rfl (le_b rfl) fun p e s m args below meth c A C0 hr => ?_
  refine AW.lo (ls2 := [(0, _), (1, _)]) rfl ?_
  refine a_aload_n C0 0 dX1_coolsOf_0 rfl rfl ?_
  refine g_X1_9 C0 (lt_b rfl) rfl rfl dX1_coolsOf_1 ?_
  refine a_iconst C0 0 dX1_coolsOf_4 rfl ?_
  refine a_iald C0 0 (lt_b rfl) rfl (vq rfl) rfl dX1_coolsOf_5 ?_
  refine a_istore_n (ls2 := [(2, _), (0, _), (1, _)]) C0 dX1_coolsOf_6 rfl (lt_b rfl) rfl ?_
  refine a_aload_n C0 1 dX1_coolsOf_7 rfl rfl ?_
  refine g_X1_21 C0 (lt_b rfl) rfl rfl dX1_coolsOf_8 ?_
  refine a_iload_n C0 2 dX1_coolsOf_11 rfl rfl ?_
  refine a_iald C0 _ (lt_b rfl) rfl hx.1 hx.2 dX1_coolsOf_12 ?_
  refine a_case 1 (fun h13 => ?_) (fun h13n_1 => ?_)
  · refine a_tsIn C0 48 dX1_coolsOf_13 (by decide) (by decide) rfl rfl ?_
    refine a_iload_n C0 0 dX1_coolsOf_48 rfl rfl ?_
    refine a_iconst C0 1 dX1_coolsOf_49 rfl ?_
    refine a_isub C0 dX1_coolsOf_50 ?_
    refine a_iret C0 hr dX1_coolsOf_51 ?_
    refine rt_ ?_
    unfold coolsP
    first
      | rw [if_neg h13n_1, if_neg h13n_2, if_neg h13n_3, if_neg h13n_4, if_neg h13n_5]
      | rw [if_neg h13n_1, if_neg h13n_2, if_neg h13n_3, if_neg h13n_4, if_pos h13, if_neg h93]
      | rw [if_neg h13n_1, if_neg h13n_2, if_neg h13n_3, if_neg h13n_4, if_pos h13, if_pos h93]
      | rw [if_neg h13n_1, if_neg h13n_2, if_neg h13n_3, if_pos h13]
      | rw [if_neg h13n_1, if_neg h13n_2, if_pos h13]
      | rw [if_neg h13n_1, if_pos h13]
      | rw [if_pos h13]
  refine a_case 2 (fun h13 => ?_) (fun h13n_2 => ?_)
  · refine a_tsIn C0 63 dX1_coolsOf_13 (by decide) (by decide) rfl rfl ?_
    refine a_iload_n C0 0 dX1_coolsOf_63 rfl rfl ?_
    refine a_iconst C0 2 dX1_coolsOf_64 rfl ?_
    refine a_imul C0 dX1_coolsOf_65 ?_
    refine a_iret C0 hr dX1_coolsOf_66 ?_
    refine rt_ ?_
    unfold coolsP
    first
      | rw [if_neg h13n_1, if_neg h13n_2, if_neg h13n_3, if_neg h13n_4, if_neg h13n_5]
      | rw [if_neg h13n_1, if_neg h13n_2, if_neg h13n_3, if_neg h13n_4, if_pos h13, if_neg h93]
      | rw [if_neg h13n_1, if_neg h13n_2, if_neg h13n_3, if_neg h13n_4, if_pos h13, if_pos h93]
      | rw [if_neg h13n_1, if_neg h13n_2, if_neg h13n_3, if_pos h13]
      | rw [if_neg h13n_1, if_neg h13n_2, if_pos h13]
      | rw [if_neg h13n_1, if_pos h13]
      | rw [if_pos h13]
  refine a_case 3 (fun h13 => ?_) (fun h13n_3 => ?_)
  · refine a_tsIn C0 52 dX1_coolsOf_13 (by decide) (by decide) rfl rfl ?_
    refine a_iload_n C0 0 dX1_coolsOf_52 rfl rfl ?_
    refine a_iconst C0 1 dX1_coolsOf_53 rfl ?_
    refine a_isub C0 dX1_coolsOf_54 ?_
    refine a_aload_n C0 1 dX1_coolsOf_55 rfl rfl ?_
    refine g_X1_9 C0 (lt_b rfl) rfl rfl dX1_coolsOf_56 ?_
    refine a_iconst C0 1 dX1_coolsOf_59 rfl ?_
    refine a_iald C0 1 (lt_b rfl) rfl (vq rfl) rfl dX1_coolsOf_60 ?_
    refine a_isub C0 dX1_coolsOf_61 ?_
    refine a_iret C0 hr dX1_coolsOf_62 ?_
    refine rt_ ?_
    unfold coolsP
    first
      | rw [if_neg h13n_1, if_neg h13n_2, if_neg h13n_3, if_neg h13n_4, if_neg h13n_5]
      | rw [if_neg h13n_1, if_neg h13n_2, if_neg h13n_3, if_neg h13n_4, if_pos h13, if_neg h93]
      | rw [if_neg h13n_1, if_neg h13n_2, if_neg h13n_3, if_neg h13n_4, if_pos h13, if_pos h93]
      | rw [if_neg h13n_1, if_neg h13n_2, if_neg h13n_3, if_pos h13]
      | rw [if_neg h13n_1, if_neg h13n_2, if_pos h13]
      | rw [if_neg h13n_1, if_pos h13]
      | rw [if_pos h13]
  refine a_case 4 (fun h13 => ?_) (fun h13n_4 => ?_)
  · refine a_tsIn C0 67 dX1_coolsOf_13 (by decide) (by decide) rfl rfl ?_
    refine a_iload_n C0 0 dX1_coolsOf_67 rfl rfl ?_
    refine a_iconst C0 2 dX1_coolsOf_68 rfl ?_
    refine a_imul C0 dX1_coolsOf_69 ?_
    refine a_aload_n C0 1 dX1_coolsOf_70 rfl rfl ?_
    refine g_X1_30 C0 (lt_b rfl) rfl rfl dX1_coolsOf_71 ?_
    refine a_iload_n C0 2 dX1_coolsOf_74 rfl rfl ?_
    refine a_iald C0 _ (lt_b rfl) rfl hx.1 hx.2 dX1_coolsOf_75 ?_
    refine a_callS _ 1 C0 EM.z (c_J6_bitCount_0f7a4 l G) u_c_J6_bitCount_0f7a4 u_m_X1_58 u_st_J6_bitCount_0f7a4 u_in_J6 hy_J6_bitCount_0f7a4.2 (hRk rfl) rfl rfl (le_b rfl) dX1_coolsOf_76 (k_ro EM.z ?_)
    refine a_iadd C0 dX1_coolsOf_79 ?_
    refine a_iret C0 hr dX1_coolsOf_80 ?_
    refine rt_ ?_
    unfold coolsP
    first
      | rw [if_neg h13n_1, if_neg h13n_2, if_neg h13n_3, if_neg h13n_4, if_neg h13n_5]
      | rw [if_neg h13n_1, if_neg h13n_2, if_neg h13n_3, if_neg h13n_4, if_pos h13, if_neg h93]
      | rw [if_neg h13n_1, if_neg h13n_2, if_neg h13n_3, if_neg h13n_4, if_pos h13, if_pos h93]
      | rw [if_neg h13n_1, if_neg h13n_2, if_neg h13n_3, if_pos h13]
      | rw [if_neg h13n_1, if_neg h13n_2, if_pos h13]
      | rw [if_neg h13n_1, if_pos h13]
      | rw [if_pos h13]
  refine a_case 5 (fun h13 => ?_) (fun h13n_5 => ?_)
  · refine a_tsIn C0 81 dX1_coolsOf_13 (by decide) (by decide) rfl rfl ?_
    refine a_aload_n C0 1 dX1_coolsOf_81 rfl rfl ?_
    refine g_X1_24 C0 (lt_b rfl) rfl rfl dX1_coolsOf_82 ?_
    refine a_iload_n C0 2 dX1_coolsOf_85 rfl rfl ?_
    refine a_iald C0 _ (lt_b rfl) rfl hx.1 hx.2 dX1_coolsOf_86 ?_
    refine a_aload_n C0 1 dX1_coolsOf_87 rfl rfl ?_
    refine g_X1_9 C0 (lt_b rfl) rfl rfl dX1_coolsOf_88 ?_
    refine a_iconst C0 2 dX1_coolsOf_91 rfl ?_
    refine a_iald C0 2 (lt_b rfl) rfl (vq rfl) rfl dX1_coolsOf_92 ?_
    refine a_icmp_le C0 100 dX1_coolsOf_93 rfl (fun h93 => ?_) (fun h93 => ?_)
    · refine a_iload_n C0 0 dX1_coolsOf_100 rfl rfl ?_
      refine a_iret C0 hr dX1_coolsOf_101 ?_
      refine rt_ ?_
      unfold coolsP
      first
        | rw [if_neg h13n_1, if_neg h13n_2, if_neg h13n_3, if_neg h13n_4, if_neg h13n_5]
        | rw [if_neg h13n_1, if_neg h13n_2, if_neg h13n_3, if_neg h13n_4, if_pos h13, if_neg h93]
        | rw [if_neg h13n_1, if_neg h13n_2, if_neg h13n_3, if_neg h13n_4, if_pos h13, if_pos h93]
        | rw [if_neg h13n_1, if_neg h13n_2, if_neg h13n_3, if_pos h13]
        | rw [if_neg h13n_1, if_neg h13n_2, if_pos h13]
        | rw [if_neg h13n_1, if_pos h13]
        | rw [if_pos h13]
    · refine a_iconst C0 (-1) dX1_coolsOf_96 rfl ?_
      refine a_goto C0 101 dX1_coolsOf_97 rfl ?_
      refine a_iret C0 hr dX1_coolsOf_101 ?_
      refine rt_ ?_
      unfold coolsP
      first
        | rw [if_neg h13n_1, if_neg h13n_2, if_neg h13n_3, if_neg h13n_4, if_neg h13n_5]
        | rw [if_neg h13n_1, if_neg h13n_2, if_neg h13n_3, if_neg h13n_4, if_pos h13, if_neg h93]
        | rw [if_neg h13n_1, if_neg h13n_2, if_neg h13n_3, if_neg h13n_4, if_pos h13, if_pos h93]
        | rw [if_neg h13n_1, if_neg h13n_2, if_neg h13n_3, if_pos h13]
        | rw [if_neg h13n_1, if_neg h13n_2, if_pos h13]
        | rw [if_neg h13n_1, if_pos h13]
        | rw [if_pos h13]
  refine a_tsOut C0 102 dX1_coolsOf_13 (by have t0 := lv_neT (a := 1) h13n_1 rfl; have t1 := lv_neT (a := 2) h13n_2 rfl; have t2 := lv_neT (a := 3) h13n_3 rfl; have t3 := lv_neT (a := 4) h13n_4 rfl; have t4 := lv_neT (a := 5) h13n_5 rfl; omega) rfl ?_
  refine a_iload_n C0 0 dX1_coolsOf_102 rfl rfl ?_
  refine a_iret C0 hr dX1_coolsOf_103 ?_
  refine rt_ ?_
  unfold coolsP
  first
    | rw [if_neg h13n_1, if_neg h13n_2, if_neg h13n_3, if_neg h13n_4, if_neg h13n_5]
    | rw [if_neg h13n_1, if_neg h13n_2, if_neg h13n_3, if_neg h13n_4, if_pos h13, if_neg h93]
    | rw [if_neg h13n_1, if_neg h13n_2, if_neg h13n_3, if_neg h13n_4, if_pos h13, if_pos h93]
    | rw [if_neg h13n_1, if_neg h13n_2, if_neg h13n_3, if_pos h13]
    | rw [if_neg h13n_1, if_neg h13n_2, if_pos h13]
    | rw [if_neg h13n_1, if_pos h13]
    | rw [if_pos h13]
set_option maxRecDepth 100000 in
set_option maxHeartbeats 4000000 in
theorem c_X1_doorsOf (l : Launch) (G : GE) {ad : Nat → Nat} {M : WM} {x : Int32} {t : Nat} (hx : IX x t 8) : CT l G yX1_doorsOf cX1_doorsOf 2 (some .int) 0 [.ref (ad 0), .int x] 8 ad (shP G ad) M (PI (fun r u => r = doorsP M t ∧ u = M)) := by
  refine CT.of (own := RX1) rfl rfl (le_b rfl) fun p e s m args below meth c A C0 hr => ?_
  refine AW.lo (ls2 := [(0, _), (1, _)]) rfl ?_
  refine a_aload_n C0 0 dX1_doorsOf_0 rfl rfl ?_
  refine g_X1_21 C0 (lt_b rfl) rfl rfl dX1_doorsOf_1 ?_
  refine a_iload_n C0 1 dX1_doorsOf_4 rfl rfl ?_
  refine a_iald C0 _ (lt_b rfl) rfl hx.1 hx.2 dX1_doorsOf_5 ?_
  refine a_case 2 (fun h6 => ?_) (fun h6n_2 => ?_)
  · refine a_tsIn C0 38 dX1_doorsOf_6 (by decide) (by decide) rfl rfl ?_
    refine a_iconst C0 2 dX1_doorsOf_38 rfl ?_
    refine a_iret C0 hr dX1_doorsOf_39 ?_
    refine rt_ ?_
    unfold doorsP
    first
      | rw [if_neg h6n_2, if_neg h6n_3, if_neg h6n_4, if_neg h6n_5]
      | (rw [if_neg h6n_2, if_neg h6n_3, if_neg h6n_4, if_pos h6]; exact (if_pos h55).symm)
      | (rw [if_neg h6n_2, if_neg h6n_3, if_neg h6n_4, if_pos h6]; exact (if_neg h55).symm)
      | (rw [if_neg h6n_2, if_neg h6n_3, if_pos h6]; rfl)
      | rw [if_neg h6n_2, if_pos h6]
      | rw [if_pos h6]
  refine a_case 3 (fun h6 => ?_) (fun h6n_3 => ?_)
  · refine a_tsIn C0 36 dX1_doorsOf_6 (by decide) (by decide) rfl rfl ?_
    refine a_iconst C0 2 dX1_doorsOf_36 rfl ?_
    refine a_iret C0 hr dX1_doorsOf_37 ?_
    refine rt_ ?_
    unfold doorsP
    first
      | rw [if_neg h6n_2, if_neg h6n_3, if_neg h6n_4, if_neg h6n_5]
      | (rw [if_neg h6n_2, if_neg h6n_3, if_neg h6n_4, if_pos h6]; exact (if_pos h55).symm)
      | (rw [if_neg h6n_2, if_neg h6n_3, if_neg h6n_4, if_pos h6]; exact (if_neg h55).symm)
      | (rw [if_neg h6n_2, if_neg h6n_3, if_pos h6]; rfl)
      | rw [if_neg h6n_2, if_pos h6]
      | rw [if_pos h6]
  refine a_case 4 (fun h6 => ?_) (fun h6n_4 => ?_)
  · refine a_tsIn C0 40 dX1_doorsOf_6 (by decide) (by decide) rfl rfl ?_
    refine a_iconst C0 2 dX1_doorsOf_40 rfl ?_
    refine a_aload_n C0 0 dX1_doorsOf_41 rfl rfl ?_
    refine g_X1_49 C0 (lt_b rfl) rfl rfl dX1_doorsOf_42 ?_
    refine a_iconst C0 2 dX1_doorsOf_45 rfl ?_
    refine a_irem C0 dX1_doorsOf_46 (by decide) ?_
    refine a_isub C0 dX1_doorsOf_47 ?_
    refine a_iret C0 hr dX1_doorsOf_48 ?_
    refine rt_ ?_
    unfold doorsP
    first
      | rw [if_neg h6n_2, if_neg h6n_3, if_neg h6n_4, if_neg h6n_5]
      | (rw [if_neg h6n_2, if_neg h6n_3, if_neg h6n_4, if_pos h6]; exact (if_pos h55).symm)
      | (rw [if_neg h6n_2, if_neg h6n_3, if_neg h6n_4, if_pos h6]; exact (if_neg h55).symm)
      | (rw [if_neg h6n_2, if_neg h6n_3, if_pos h6]; rfl)
      | rw [if_neg h6n_2, if_pos h6]
      | rw [if_pos h6]
  refine a_case 5 (fun h6 => ?_) (fun h6n_5 => ?_)
  · refine a_tsIn C0 49 dX1_doorsOf_6 (by decide) (by decide) rfl rfl ?_
    refine a_aload_n C0 0 dX1_doorsOf_49 rfl rfl ?_
    refine g_X1_49 C0 (lt_b rfl) rfl rfl dX1_doorsOf_50 ?_
    refine a_iconst C0 3 dX1_doorsOf_53 rfl ?_
    refine a_irem C0 dX1_doorsOf_54 (by decide) ?_
    refine a_if_ne C0 62 dX1_doorsOf_55 rfl (fun h55 => ?_) (fun h55 => ?_)
    · refine a_iconst C0 0 dX1_doorsOf_62 rfl ?_
      refine a_iret C0 hr dX1_doorsOf_63 ?_
      refine rt_ ?_
      unfold doorsP
      first
        | rw [if_neg h6n_2, if_neg h6n_3, if_neg h6n_4, if_neg h6n_5]
        | (rw [if_neg h6n_2, if_neg h6n_3, if_neg h6n_4, if_pos h6]; exact (if_pos h55).symm)
        | (rw [if_neg h6n_2, if_neg h6n_3, if_neg h6n_4, if_pos h6]; exact (if_neg h55).symm)
        | (rw [if_neg h6n_2, if_neg h6n_3, if_pos h6]; rfl)
        | rw [if_neg h6n_2, if_pos h6]
        | rw [if_pos h6]
    · refine a_iconst C0 1 dX1_doorsOf_58 rfl ?_
      refine a_goto C0 63 dX1_doorsOf_59 rfl ?_
      refine a_iret C0 hr dX1_doorsOf_63 ?_
      refine rt_ ?_
      unfold doorsP
      first
        | rw [if_neg h6n_2, if_neg h6n_3, if_neg h6n_4, if_neg h6n_5]
        | (rw [if_neg h6n_2, if_neg h6n_3, if_neg h6n_4, if_pos h6]; exact (if_pos h55).symm)
        | (rw [if_neg h6n_2, if_neg h6n_3, if_neg h6n_4, if_pos h6]; exact (if_neg h55).symm)
        | (rw [if_neg h6n_2, if_neg h6n_3, if_pos h6]; rfl)
        | rw [if_neg h6n_2, if_pos h6]
        | rw [if_pos h6]
  refine a_tsOut C0 64 dX1_doorsOf_6 (by have t0 := lv_neT (a := 2) h6n_2 rfl; have t1 := lv_neT (a := 3) h6n_3 rfl; have t2 := lv_neT (a := 4) h6n_4 rfl; have t3 := lv_neT (a := 5) h6n_5 rfl; omega) rfl ?_
  refine a_iconst C0 1 dX1_doorsOf_64 rfl ?_
  refine a_iret C0 hr dX1_doorsOf_65 ?_
  refine rt_ ?_
  unfold doorsP
  first
    | rw [if_neg h6n_2, if_neg h6n_3, if_neg h6n_4, if_neg h6n_5]
    | (rw [if_neg h6n_2, if_neg h6n_3, if_neg h6n_4, if_pos h6]; exact (if_pos h55).symm)
    | (rw [if_neg h6n_2, if_neg h6n_3, if_neg h6n_4, if_pos h6]; exact (if_neg h55).symm)
    | (rw [if_neg h6n_2, if_neg h6n_3, if_pos h6]; rfl)
    | rw [if_neg h6n_2, if_pos h6]
    | rw [if_pos h6]
set_option maxRecDepth 100000 in
set_option maxHeartbeats 4000000 in
theorem c_X1_hasBox (l : Launch) (G : GE) {ad : Nat → Nat} {M : WM} {h : Int32} : CT l G yX1_hasBox cX1_hasBox 2 (some .boolean) 0 [.ref (ad 0), .int h] 8 ad (shP G ad) M (PI (fun r u => r = bI (boxP M h) ∧ u = M)) := by
  refine CT.of (own := RX1) rfl rfl (le_b rfl) fun p e s m args below meth c A C0 hr => ?_
  refine AW.lo (ls2 := [(0, _), (1, _)]) rfl ?_
  refine a_aload_n C0 0 dX1_hasBox_0 rfl rfl ?_
  refine g_X1_43 C0 (lt_b rfl) rfl rfl dX1_hasBox_1 ?_
  refine a_iload_n C0 1 dX1_hasBox_4 rfl rfl ?_
  refine a_ishr C0 dX1_hasBox_5 ?_
  refine a_iconst C0 1 dX1_hasBox_6 rfl ?_
  refine a_iand C0 dX1_hasBox_7 ?_
  refine a_iconst C0 1 dX1_hasBox_8 rfl ?_
  refine a_icmp_ne C0 16 dX1_hasBox_9 rfl (fun h9 => ?_) (fun h9 => ?_)
  · refine a_iconst C0 0 dX1_hasBox_16 rfl ?_
    refine a_zret C0 hr rfl dX1_hasBox_17 ?_
    refine rt_ ?_
    first
      | exact (bI_t h9).symm
      | exact (bI_f h9).symm
  · refine a_iconst C0 1 dX1_hasBox_12 rfl ?_
    refine a_goto C0 17 dX1_hasBox_13 rfl ?_
    refine a_zret C0 hr rfl dX1_hasBox_17 ?_
    refine rt_ ?_
    first
      | exact (bI_t h9).symm
      | exact (bI_f h9).symm
set_option maxRecDepth 100000 in
set_option maxHeartbeats 4000000 in
theorem c_X1_draw (l : Launch) (G : GE) {ad : Nat → Nat} {M : WM}  : CT l G yX1_draw cX1_draw 1 (some .int) 0 [.ref (ad 0)] 8 ad (shP G ad) M (PI (fun r u => r = ushr (drawZ (M 0 10)) 16 ∧ u = up2 M 0 10 (drawZ (M 0 10)))) := by
  refine CT.of (own := RX1) rfl rfl (le_b rfl) fun p e s m args below meth c A C0 hr => ?_
  refine AW.lo (ls2 := [(0, _)]) rfl ?_
  refine a_aload_n C0 0 dX1_draw_0 rfl rfl ?_
  refine a_aload_n C0 0 dX1_draw_1 rfl rfl ?_
  refine g_X1_33 C0 (lt_b rfl) rfl rfl dX1_draw_2 ?_
  refine a_ldc C0 dX1_draw_5 u_k_X1_82 ?_
  refine a_imul C0 dX1_draw_7 ?_
  refine a_sipush C0 12345 dX1_draw_8 rfl ?_
  refine a_iadd C0 dX1_draw_11 ?_
  refine p_X1_33 C0 (lt_b rfl) rfl (lt_b rfl) rfl rfl dX1_draw_12 ?_
  refine a_aload_n C0 0 dX1_draw_15 rfl rfl ?_
  refine g_X1_33 C0 (lt_b rfl) rfl rfl dX1_draw_16 ?_
  refine a_bipush C0 16 dX1_draw_19 rfl ?_
  refine a_iushr C0 dX1_draw_21 ?_
  refine a_iret C0 hr dX1_draw_22 ?_
  exact rd_ rfl rfl
set_option maxRecDepth 100000 in
set_option maxHeartbeats 4000000 in
theorem c_X1_add (l : Launch) (G : GE) {ad : Nat → Nat} {M : WM} {k h a : Int32} {t : Nat} (hx : IX (M 0 8) t 8) : CT l G yX1_add cX1_add 5 (some .int) 0 [.ref (ad 0), .int k, .int h, .int a] 8 ad (shP G ad) M (PI (fun r u => r = M 0 8 ∧ u = addP M t k h a)) := by
  refine CT.of (own := RX1) rfl rfl (le_b rfl) fun p e s m args below meth c A C0 hr => ?_
  refine AW.lo (ls2 := [(0, _), (1, _), (2, _), (3, _)]) rfl ?_
  refine a_aload_n C0 0 dX1_add_0 rfl rfl ?_
  refine g_X1_46 C0 (lt_b rfl) rfl rfl dX1_add_1 ?_
  refine a_istore (ls2 := [(4, _), (0, _), (1, _), (2, _), (3, _)]) C0 dX1_add_4 (lt_b rfl) rfl ?_
  refine a_aload_n C0 1 dX1_add_6 rfl rfl ?_
  refine g_X1_21 C0 (lt_b rfl) rfl rfl dX1_add_7 ?_
  refine a_iload C0 0 dX1_add_10 rfl ?_
  refine a_iload_n C0 2 dX1_add_12 rfl rfl ?_
  refine a_iast C0 _ (lt_b rfl) (fun _ => rfl) hx.1 hx.2 dX1_add_13 ?_
  refine a_aload_n C0 1 dX1_add_14 rfl rfl ?_
  refine g_X1_24 C0 (lt_b rfl) rfl rfl dX1_add_15 ?_
  refine a_iload C0 0 dX1_add_18 rfl ?_
  refine a_iload_n C0 3 dX1_add_20 rfl rfl ?_
  refine a_iast C0 _ (lt_b rfl) (fun _ => rfl) hx.1 hx.2 dX1_add_21 ?_
  refine a_aload_n C0 1 dX1_add_22 rfl rfl ?_
  refine g_X1_27 C0 (lt_b rfl) rfl rfl dX1_add_23 ?_
  refine a_iload C0 0 dX1_add_26 rfl ?_
  refine a_iload_n C0 4 dX1_add_28 rfl rfl ?_
  refine a_iast C0 _ (lt_b rfl) (fun _ => rfl) hx.1 hx.2 dX1_add_29 ?_
  refine a_aload_n C0 1 dX1_add_30 rfl rfl ?_
  refine g_X1_30 C0 (lt_b rfl) rfl rfl dX1_add_31 ?_
  refine a_iload C0 0 dX1_add_34 rfl ?_
  refine a_iconst C0 1 dX1_add_36 rfl ?_
  refine a_iload_n C0 4 dX1_add_37 rfl rfl ?_
  refine a_ishl C0 dX1_add_38 ?_
  refine a_iast C0 _ (lt_b rfl) (fun _ => rfl) hx.1 hx.2 dX1_add_39 ?_
  refine a_aload_n C0 1 dX1_add_40 rfl rfl ?_
  refine a_dup C0 dX1_add_41 rfl ?_
  refine g_X1_46 C0 (lt_b rfl) rfl rfl dX1_add_42 ?_
  refine a_iconst C0 1 dX1_add_45 rfl ?_
  refine a_iadd C0 dX1_add_46 ?_
  refine p_X1_46 C0 (lt_b rfl) rfl (lt_b rfl) rfl rfl dX1_add_47 ?_
  refine a_iload C0 0 dX1_add_50 rfl ?_
  refine a_iret C0 hr dX1_add_52 ?_
  exact rd_ rfl rfl
set_option maxRecDepth 100000 in
set_option maxHeartbeats 4000000 in
theorem c_X1_heatTogether (l : Launch) (G : GE) {ad : Nat → Nat} {M : WM} {T : Nat} (hT : M 0 8 = nI T) (hT8 : T ≤ 8) : CT l G yX1_heatTogether cX1_heatTogether 3 (some .int) 0 [.ref (ad 0)] 8 ad (shP G ad) M (PI (fun r u => r = sumP (M 5) T ∧ u = M)) := by
  refine CT.of (own := RX1) rfl rfl (le_b rfl) fun p e s m args below meth c A C0 hr => ?_
  refine AW.lo (ls2 := [(0, _)]) rfl ?_
  have lp : ∀ (n : Nat) (i : Nat) (a xi : Int32), T - i < n → (i ≤ T) → (xi = nI i) → (a = sumP (M 5) i) → AW p l e (rmk 0) s m args below meth c G A 8 ad (shP G ad) 3 0 0 (MQ below (CQ G 8 ad (shP G ad) A (PI (fun r u => r = sumP (M 5) T ∧ u = M))) args s 0 0 A) 4 [(0, .ref (ad 0)), (1, .int a), (2, .int xi)] [] M := by
    intro n
    induction n with
    | zero =>
      intro i a xi hn
      exact absurd hn (Nat.not_lt_zero _)
    | succ n ih =>
      intro i a xi hn hi hxi ha
      refine a_iload_n C0 2 dX1_heatTogether_4 rfl rfl ?_
      refine a_aload_n C0 0 dX1_heatTogether_5 rfl rfl ?_
      refine g_X1_46 C0 (lt_b rfl) rfl rfl dX1_heatTogether_6 ?_
      refine a_icmp_ge C0 27 dX1_heatTogether_9 rfl (fun h9 => ?_) (fun h9 => ?_)
      · refine a_iload_n C0 1 dX1_heatTogether_27 rfl rfl ?_
        refine a_iret C0 hr dX1_heatTogether_28 ?_
        have e : i = T := Nat.le_antisymm hi (i_ge hxi hT (by omega) (by omega) h9)
        subst e
        exact rt_ ha
      · have hlt : i < T := i_lt hxi hT (by omega) (by omega) h9
        have hx : IX xi i 8 := IX.eqn hxi (by omega) (by decide)
        refine a_iload_n C0 1 dX1_heatTogether_12 rfl rfl ?_
        refine a_aload_n C0 0 dX1_heatTogether_13 rfl rfl ?_
        refine g_X1_24 C0 (lt_b rfl) rfl rfl dX1_heatTogether_14 ?_
        refine a_iload_n C0 2 dX1_heatTogether_17 rfl rfl ?_
        refine a_iald C0 _ (lt_b rfl) rfl hx.1 hx.2 dX1_heatTogether_18 ?_
        refine a_iadd C0 dX1_heatTogether_19 ?_
        refine a_istore_n (ls2 := [(1, _), (0, _), (2, _)]) C0 dX1_heatTogether_20 rfl (lt_b rfl) rfl ?_
        refine a_iinc (ls2 := [(2, _), (1, _), (0, _)]) C0 2 1 dX1_heatTogether_21 rfl rfl (lt_b rfl) rfl ?_
        refine a_goto C0 4 dX1_heatTogether_24 rfl ?_
        refine AW.sub (ls2 := [(0, _), (1, _), (2, _)]) [2, 1, 0] rfl ?_
        exact ih (i + 1) _ _ (by omega) hlt (by rw [hxi, nI_1]) (by rw [ha]; rfl)
  refine a_iconst C0 0 dX1_heatTogether_0 rfl ?_
  refine a_istore_n (ls2 := [(1, _), (0, _)]) C0 dX1_heatTogether_1 rfl (lt_b rfl) rfl ?_
  refine a_iconst C0 0 dX1_heatTogether_2 rfl ?_
  refine a_istore_n (ls2 := [(2, _), (1, _), (0, _)]) C0 dX1_heatTogether_3 rfl (lt_b rfl) rfl ?_
  refine AW.sub (ls2 := [(0, _), (1, _), (2, _)]) [2, 1, 0] rfl ?_
  exact lp (T + 1) 0 _ _ (by omega) (Nat.zero_le _) rfl rfl
set_option maxRecDepth 100000 in
set_option maxHeartbeats 4000000 in
theorem c_X1_hearings (l : Launch) (G : GE) {ad : Nat → Nat} {M : WM} {T : Nat} (hT : M 0 8 = nI T) (hT8 : T ≤ 8) : CT l G yX1_hearings cX1_hearings 3 (some .int) 1 [.ref (ad 0)] 8 ad (shP G ad) M (PI (fun r u => r = sumP (fun k => bcS (M 7 k)) T ∧ u = M)) := by
  refine CT.of (own := RX1) rfl rfl (le_b rfl) fun p e s m args below meth c A C0 hr => ?_
  refine AW.lo (ls2 := [(0, _)]) rfl ?_
  have lp : ∀ (n : Nat) (i : Nat) (a xi : Int32), T - i < n → (i ≤ T) → (xi = nI i) → (a = sumP (fun k => bcS (M 7 k)) i) → AW p l e (rmk 1) s m args below meth c G A 8 ad (shP G ad) 3 0 0 (MQ below (CQ G 8 ad (shP G ad) A (PI (fun r u => r = sumP (fun k => bcS (M 7 k)) T ∧ u = M))) args s 0 0 A) 4 [(0, .ref (ad 0)), (1, .int a), (2, .int xi)] [] M := by
    intro n
    induction n with
    | zero =>
      intro i a xi hn
      exact absurd hn (Nat.not_lt_zero _)
    | succ n ih =>
      intro i a xi hn hi hxi ha
      refine a_iload_n C0 2 dX1_hearings_4 rfl rfl ?_
      refine a_aload_n C0 0 dX1_hearings_5 rfl rfl ?_
      refine g_X1_46 C0 (lt_b rfl) rfl rfl dX1_hearings_6 ?_
      refine a_icmp_ge C0 30 dX1_hearings_9 rfl (fun h9 => ?_) (fun h9 => ?_)
      · refine a_iload_n C0 1 dX1_hearings_30 rfl rfl ?_
        refine a_iret C0 hr dX1_hearings_31 ?_
        have e : i = T := Nat.le_antisymm hi (i_ge hxi hT (by omega) (by omega) h9)
        subst e
        exact rt_ ha
      · have hlt : i < T := i_lt hxi hT (by omega) (by omega) h9
        have hx : IX xi i 8 := IX.eqn hxi (by omega) (by decide)
        refine a_iload_n C0 1 dX1_hearings_12 rfl rfl ?_
        refine a_aload_n C0 0 dX1_hearings_13 rfl rfl ?_
        refine g_X1_30 C0 (lt_b rfl) rfl rfl dX1_hearings_14 ?_
        refine a_iload_n C0 2 dX1_hearings_17 rfl rfl ?_
        refine a_iald C0 _ (lt_b rfl) rfl hx.1 hx.2 dX1_hearings_18 ?_
        refine a_callS _ 1 C0 EM.z (c_J6_bitCount_0f7a4 l G) u_c_J6_bitCount_0f7a4 u_m_X1_58 u_st_J6_bitCount_0f7a4 u_in_J6 hy_J6_bitCount_0f7a4.2 (hRk rfl) rfl rfl (le_b rfl) dX1_hearings_19 (k_ro EM.z ?_)
        refine a_iadd C0 dX1_hearings_22 ?_
        refine a_istore_n (ls2 := [(1, _), (0, _), (2, _)]) C0 dX1_hearings_23 rfl (lt_b rfl) rfl ?_
        refine a_iinc (ls2 := [(2, _), (1, _), (0, _)]) C0 2 1 dX1_hearings_24 rfl rfl (lt_b rfl) rfl ?_
        refine a_goto C0 4 dX1_hearings_27 rfl ?_
        refine AW.sub (ls2 := [(0, _), (1, _), (2, _)]) [2, 1, 0] rfl ?_
        exact ih (i + 1) _ _ (by omega) hlt (by rw [hxi, nI_1]) (by rw [ha]; rfl)
  refine a_iconst C0 0 dX1_hearings_0 rfl ?_
  refine a_istore_n (ls2 := [(1, _), (0, _)]) C0 dX1_hearings_1 rfl (lt_b rfl) rfl ?_
  refine a_iconst C0 0 dX1_hearings_2 rfl ?_
  refine a_istore_n (ls2 := [(2, _), (1, _), (0, _)]) C0 dX1_hearings_3 rfl (lt_b rfl) rfl ?_
  refine AW.sub (ls2 := [(0, _), (1, _), (2, _)]) [2, 1, 0] rfl ?_
  exact lp (T + 1) 0 _ _ (by omega) (Nat.zero_le _) rfl rfl
set_option maxRecDepth 100000 in
set_option maxHeartbeats 4000000 in
theorem c_X1_housesWithTales (l : Launch) (G : GE) {ad : Nat → Nat} {M : WM} {T : Nat} (hT : M 0 8 = nI T) (hT8 : T ≤ 8) : CT l G yX1_housesWithTales cX1_housesWithTales 3 (some .int) 0 [.ref (ad 0)] 8 ad (shP G ad) M (PI (fun r u => r = orP (fun k => 1 <<< (M 6 k &&& 31)) T ∧ u = M)) := by
  refine CT.of (own := RX1) rfl rfl (le_b rfl) fun p e s m args below meth c A C0 hr => ?_
  refine AW.lo (ls2 := [(0, _)]) rfl ?_
  have lp : ∀ (n : Nat) (i : Nat) (a xi : Int32), T - i < n → (i ≤ T) → (xi = nI i) → (a = orP (fun k => 1 <<< (M 6 k &&& 31)) i) → AW p l e (rmk 0) s m args below meth c G A 8 ad (shP G ad) 3 0 0 (MQ below (CQ G 8 ad (shP G ad) A (PI (fun r u => r = orP (fun k => 1 <<< (M 6 k &&& 31)) T ∧ u = M))) args s 0 0 A) 4 [(0, .ref (ad 0)), (1, .int a), (2, .int xi)] [] M := by
    intro n
    induction n with
    | zero =>
      intro i a xi hn
      exact absurd hn (Nat.not_lt_zero _)
    | succ n ih =>
      intro i a xi hn hi hxi ha
      refine a_iload_n C0 2 dX1_housesWithTales_4 rfl rfl ?_
      refine a_aload_n C0 0 dX1_housesWithTales_5 rfl rfl ?_
      refine g_X1_46 C0 (lt_b rfl) rfl rfl dX1_housesWithTales_6 ?_
      refine a_icmp_ge C0 29 dX1_housesWithTales_9 rfl (fun h9 => ?_) (fun h9 => ?_)
      · refine a_iload_n C0 1 dX1_housesWithTales_29 rfl rfl ?_
        refine a_iret C0 hr dX1_housesWithTales_30 ?_
        have e : i = T := Nat.le_antisymm hi (i_ge hxi hT (by omega) (by omega) h9)
        subst e
        exact rt_ ha
      · have hlt : i < T := i_lt hxi hT (by omega) (by omega) h9
        have hx : IX xi i 8 := IX.eqn hxi (by omega) (by decide)
        refine a_iload_n C0 1 dX1_housesWithTales_12 rfl rfl ?_
        refine a_iconst C0 1 dX1_housesWithTales_13 rfl ?_
        refine a_aload_n C0 0 dX1_housesWithTales_14 rfl rfl ?_
        refine g_X1_27 C0 (lt_b rfl) rfl rfl dX1_housesWithTales_15 ?_
        refine a_iload_n C0 2 dX1_housesWithTales_18 rfl rfl ?_
        refine a_iald C0 _ (lt_b rfl) rfl hx.1 hx.2 dX1_housesWithTales_19 ?_
        refine a_ishl C0 dX1_housesWithTales_20 ?_
        refine a_ior C0 dX1_housesWithTales_21 ?_
        refine a_istore_n (ls2 := [(1, _), (0, _), (2, _)]) C0 dX1_housesWithTales_22 rfl (lt_b rfl) rfl ?_
        refine a_iinc (ls2 := [(2, _), (1, _), (0, _)]) C0 2 1 dX1_housesWithTales_23 rfl rfl (lt_b rfl) rfl ?_
        refine a_goto C0 4 dX1_housesWithTales_26 rfl ?_
        refine AW.sub (ls2 := [(0, _), (1, _), (2, _)]) [2, 1, 0] rfl ?_
        exact ih (i + 1) _ _ (by omega) hlt (by rw [hxi, nI_1]) (by rw [ha]; rfl)
  refine a_iconst C0 0 dX1_housesWithTales_0 rfl ?_
  refine a_istore_n (ls2 := [(1, _), (0, _)]) C0 dX1_housesWithTales_1 rfl (lt_b rfl) rfl ?_
  refine a_iconst C0 0 dX1_housesWithTales_2 rfl ?_
  refine a_istore_n (ls2 := [(2, _), (1, _), (0, _)]) C0 dX1_housesWithTales_3 rfl (lt_b rfl) rfl ?_
  refine AW.sub (ls2 := [(0, _), (1, _), (2, _)]) [2, 1, 0] rfl ?_
  exact lp (T + 1) 0 _ _ (by omega) (Nat.zero_le _) rfl rfl
set_option maxRecDepth 100000 in
set_option maxHeartbeats 4000000 in
theorem c_X1_coldTales (l : Launch) (G : GE) {ad : Nat → Nat} {M : WM} {T : Nat} (hT : M 0 8 = nI T) (hT8 : T ≤ 8) : CT l G yX1_coldTales cX1_coldTales 3 (some .int) 0 [.ref (ad 0)] 8 ad (shP G ad) M (PI (fun r u => r = orC (fun k => decide (M 5 k = 0)) bitI T ∧ u = M)) := by
  refine CT.of (own := RX1) rfl rfl (le_b rfl) fun p e s m args below meth c A C0 hr => ?_
  refine AW.lo (ls2 := [(0, _)]) rfl ?_
  have lp : ∀ (n : Nat) (i : Nat) (a xi : Int32), T - i < n → (i ≤ T) → (xi = nI i) → (a = orC (fun k => decide (M 5 k = 0)) bitI i) → AW p l e (rmk 0) s m args below meth c G A 8 ad (shP G ad) 3 0 0 (MQ below (CQ G 8 ad (shP G ad) A (PI (fun r u => r = orC (fun k => decide (M 5 k = 0)) bitI T ∧ u = M))) args s 0 0 A) 4 [(0, .ref (ad 0)), (1, .int a), (2, .int xi)] [] M := by
    intro n
    induction n with
    | zero =>
      intro i a xi hn
      exact absurd hn (Nat.not_lt_zero _)
    | succ n ih =>
      intro i a xi hn hi hxi ha
      refine a_iload_n C0 2 dX1_coldTales_4 rfl rfl ?_
      refine a_aload_n C0 0 dX1_coldTales_5 rfl rfl ?_
      refine g_X1_46 C0 (lt_b rfl) rfl rfl dX1_coldTales_6 ?_
      refine a_icmp_ge C0 33 dX1_coldTales_9 rfl (fun h9 => ?_) (fun h9 => ?_)
      · refine a_iload_n C0 1 dX1_coldTales_33 rfl rfl ?_
        refine a_iret C0 hr dX1_coldTales_34 ?_
        have e : i = T := Nat.le_antisymm hi (i_ge hxi hT (by omega) (by omega) h9)
        subst e
        exact rt_ ha
      · have hlt : i < T := i_lt hxi hT (by omega) (by omega) h9
        have hx : IX xi i 8 := IX.eqn hxi (by omega) (by decide)
        refine a_aload_n C0 0 dX1_coldTales_12 rfl rfl ?_
        refine g_X1_24 C0 (lt_b rfl) rfl rfl dX1_coldTales_13 ?_
        refine a_iload_n C0 2 dX1_coldTales_16 rfl rfl ?_
        refine a_iald C0 _ (lt_b rfl) rfl hx.1 hx.2 dX1_coldTales_17 ?_
        refine a_if_ne C0 27 dX1_coldTales_18 rfl (fun h18 => ?_) (fun h18 => ?_)
        · refine a_iinc (ls2 := [(2, _), (0, _), (1, _)]) C0 2 1 dX1_coldTales_27 rfl rfl (lt_b rfl) rfl ?_
          refine a_goto C0 4 dX1_coldTales_30 rfl ?_
          refine AW.sub (ls2 := [(0, _), (1, _), (2, _)]) [1, 2, 0] rfl ?_
          exact ih (i + 1) _ _ (by omega) hlt (by rw [hxi, nI_1]) (by
            show _ = if decide (M 5 i = 0) = true then _ else _
            first
              | (rw [if_neg (by simpa using h18)]; exact ha)
              | (rw [if_pos (by simpa using h18), ha, hxi]; rfl))
        · refine a_iload_n C0 1 dX1_coldTales_21 rfl rfl ?_
          refine a_iconst C0 1 dX1_coldTales_22 rfl ?_
          refine a_iload_n C0 2 dX1_coldTales_23 rfl rfl ?_
          refine a_ishl C0 dX1_coldTales_24 ?_
          refine a_ior C0 dX1_coldTales_25 ?_
          refine a_istore_n (ls2 := [(1, _), (0, _), (2, _)]) C0 dX1_coldTales_26 rfl (lt_b rfl) rfl ?_
          refine a_iinc (ls2 := [(2, _), (1, _), (0, _)]) C0 2 1 dX1_coldTales_27 rfl rfl (lt_b rfl) rfl ?_
          refine a_goto C0 4 dX1_coldTales_30 rfl ?_
          refine AW.sub (ls2 := [(0, _), (1, _), (2, _)]) [2, 1, 0] rfl ?_
          exact ih (i + 1) _ _ (by omega) hlt (by rw [hxi, nI_1]) (by
            show _ = if decide (M 5 i = 0) = true then _ else _
            first
              | (rw [if_neg (by simpa using h18)]; exact ha)
              | (rw [if_pos (by simpa using h18), ha, hxi]; rfl))
  refine a_iconst C0 0 dX1_coldTales_0 rfl ?_
  refine a_istore_n (ls2 := [(1, _), (0, _)]) C0 dX1_coldTales_1 rfl (lt_b rfl) rfl ?_
  refine a_iconst C0 0 dX1_coldTales_2 rfl ?_
  refine a_istore_n (ls2 := [(2, _), (1, _), (0, _)]) C0 dX1_coldTales_3 rfl (lt_b rfl) rfl ?_
  refine AW.sub (ls2 := [(0, _), (1, _), (2, _)]) [2, 1, 0] rfl ?_
  exact lp (T + 1) 0 _ _ (by omega) (Nat.zero_le _) rfl rfl
set_option maxRecDepth 100000 in
set_option maxHeartbeats 4000000 in
theorem c_X1_talesAt (l : Launch) (G : GE) {ad : Nat → Nat} {M : WM} {w : Int32} {T : Nat} (hT : M 0 8 = nI T) (hT8 : T ≤ 8) : CT l G yX1_talesAt cX1_talesAt 4 (some .int) 0 [.ref (ad 0), .int w] 8 ad (shP G ad) M (PI (fun r u => r = orC (fun k => decide (M 6 k = w)) bitI T ∧ u = M)) := by
  refine CT.of (own := RX1) rfl rfl (le_b rfl) fun p e s m args below meth c A C0 hr => ?_
  refine AW.lo (ls2 := [(0, _), (1, _)]) rfl ?_
  have lp : ∀ (n : Nat) (i : Nat) (a xi : Int32), T - i < n → (i ≤ T) → (xi = nI i) → (a = orC (fun k => decide (M 6 k = w)) bitI i) → AW p l e (rmk 0) s m args below meth c G A 8 ad (shP G ad) 4 0 0 (MQ below (CQ G 8 ad (shP G ad) A (PI (fun r u => r = orC (fun k => decide (M 6 k = w)) bitI T ∧ u = M))) args s 0 0 A) 4 [(0, .ref (ad 0)), (1, .int w), (2, .int a), (3, .int xi)] [] M := by
    intro n
    induction n with
    | zero =>
      intro i a xi hn
      exact absurd hn (Nat.not_lt_zero _)
    | succ n ih =>
      intro i a xi hn hi hxi ha
      refine a_iload_n C0 3 dX1_talesAt_4 rfl rfl ?_
      refine a_aload_n C0 0 dX1_talesAt_5 rfl rfl ?_
      refine g_X1_46 C0 (lt_b rfl) rfl rfl dX1_talesAt_6 ?_
      refine a_icmp_ge C0 34 dX1_talesAt_9 rfl (fun h9 => ?_) (fun h9 => ?_)
      · refine a_iload_n C0 2 dX1_talesAt_34 rfl rfl ?_
        refine a_iret C0 hr dX1_talesAt_35 ?_
        have e : i = T := Nat.le_antisymm hi (i_ge hxi hT (by omega) (by omega) h9)
        subst e
        exact rt_ ha
      · have hlt : i < T := i_lt hxi hT (by omega) (by omega) h9
        have hx : IX xi i 8 := IX.eqn hxi (by omega) (by decide)
        refine a_aload_n C0 0 dX1_talesAt_12 rfl rfl ?_
        refine g_X1_27 C0 (lt_b rfl) rfl rfl dX1_talesAt_13 ?_
        refine a_iload_n C0 3 dX1_talesAt_16 rfl rfl ?_
        refine a_iald C0 _ (lt_b rfl) rfl hx.1 hx.2 dX1_talesAt_17 ?_
        refine a_iload_n C0 1 dX1_talesAt_18 rfl rfl ?_
        refine a_icmp_ne C0 28 dX1_talesAt_19 rfl (fun h19 => ?_) (fun h19 => ?_)
        · refine a_iinc (ls2 := [(3, _), (0, _), (1, _), (2, _)]) C0 3 1 dX1_talesAt_28 rfl rfl (lt_b rfl) rfl ?_
          refine a_goto C0 4 dX1_talesAt_31 rfl ?_
          refine AW.sub (ls2 := [(0, _), (1, _), (2, _), (3, _)]) [1, 2, 3, 0] rfl ?_
          exact ih (i + 1) _ _ (by omega) hlt (by rw [hxi, nI_1]) (by
            show _ = if decide (M 6 i = w) = true then _ else _
            first
              | (rw [if_neg (by simpa using h19)]; exact ha)
              | (rw [if_pos (by simpa using h19), ha, hxi]; rfl))
        · refine a_iload_n C0 2 dX1_talesAt_22 rfl rfl ?_
          refine a_iconst C0 1 dX1_talesAt_23 rfl ?_
          refine a_iload_n C0 3 dX1_talesAt_24 rfl rfl ?_
          refine a_ishl C0 dX1_talesAt_25 ?_
          refine a_ior C0 dX1_talesAt_26 ?_
          refine a_istore_n (ls2 := [(2, _), (0, _), (1, _), (3, _)]) C0 dX1_talesAt_27 rfl (lt_b rfl) rfl ?_
          refine a_iinc (ls2 := [(3, _), (2, _), (0, _), (1, _)]) C0 3 1 dX1_talesAt_28 rfl rfl (lt_b rfl) rfl ?_
          refine a_goto C0 4 dX1_talesAt_31 rfl ?_
          refine AW.sub (ls2 := [(0, _), (1, _), (2, _), (3, _)]) [2, 3, 1, 0] rfl ?_
          exact ih (i + 1) _ _ (by omega) hlt (by rw [hxi, nI_1]) (by
            show _ = if decide (M 6 i = w) = true then _ else _
            first
              | (rw [if_neg (by simpa using h19)]; exact ha)
              | (rw [if_pos (by simpa using h19), ha, hxi]; rfl))
  refine a_iconst C0 0 dX1_talesAt_0 rfl ?_
  refine a_istore_n (ls2 := [(2, _), (0, _), (1, _)]) C0 dX1_talesAt_1 rfl (lt_b rfl) rfl ?_
  refine a_iconst C0 0 dX1_talesAt_2 rfl ?_
  refine a_istore_n (ls2 := [(3, _), (2, _), (0, _), (1, _)]) C0 dX1_talesAt_3 rfl (lt_b rfl) rfl ?_
  refine AW.sub (ls2 := [(0, _), (1, _), (2, _), (3, _)]) [2, 3, 1, 0] rfl ?_
  exact lp (T + 1) 0 _ _ (by omega) (Nat.zero_le _) rfl rfl
set_option maxRecDepth 100000 in
set_option maxHeartbeats 4000000 in
theorem c_X1_talesHeardBy (l : Launch) (G : GE) {ad : Nat → Nat} {M : WM} {w : Int32} {T : Nat} (hT : M 0 8 = nI T) (hT8 : T ≤ 8) : CT l G yX1_talesHeardBy cX1_talesHeardBy 4 (some .int) 0 [.ref (ad 0), .int w] 8 ad (shP G ad) M (PI (fun r u => r = orC (fun k => decide ((M 7 k >>> (w &&& 31)) &&& 1 = 1)) bitI T ∧ u = M)) := by
  refine CT.of (own := RX1) rfl rfl (le_b rfl) fun p e s m args below meth c A C0 hr => ?_
  refine AW.lo (ls2 := [(0, _), (1, _)]) rfl ?_
  have lp : ∀ (n : Nat) (i : Nat) (a xi : Int32), T - i < n → (i ≤ T) → (xi = nI i) → (a = orC (fun k => decide ((M 7 k >>> (w &&& 31)) &&& 1 = 1)) bitI i) → AW p l e (rmk 0) s m args below meth c G A 8 ad (shP G ad) 4 0 0 (MQ below (CQ G 8 ad (shP G ad) A (PI (fun r u => r = orC (fun k => decide ((M 7 k >>> (w &&& 31)) &&& 1 = 1)) bitI T ∧ u = M))) args s 0 0 A) 4 [(0, .ref (ad 0)), (1, .int w), (2, .int a), (3, .int xi)] [] M := by
    intro n
    induction n with
    | zero =>
      intro i a xi hn
      exact absurd hn (Nat.not_lt_zero _)
    | succ n ih =>
      intro i a xi hn hi hxi ha
      refine a_iload_n C0 3 dX1_talesHeardBy_4 rfl rfl ?_
      refine a_aload_n C0 0 dX1_talesHeardBy_5 rfl rfl ?_
      refine g_X1_46 C0 (lt_b rfl) rfl rfl dX1_talesHeardBy_6 ?_
      refine a_icmp_ge C0 38 dX1_talesHeardBy_9 rfl (fun h9 => ?_) (fun h9 => ?_)
      · refine a_iload_n C0 2 dX1_talesHeardBy_38 rfl rfl ?_
        refine a_iret C0 hr dX1_talesHeardBy_39 ?_
        have e : i = T := Nat.le_antisymm hi (i_ge hxi hT (by omega) (by omega) h9)
        subst e
        exact rt_ ha
      · have hlt : i < T := i_lt hxi hT (by omega) (by omega) h9
        have hx : IX xi i 8 := IX.eqn hxi (by omega) (by decide)
        refine a_aload_n C0 0 dX1_talesHeardBy_12 rfl rfl ?_
        refine g_X1_30 C0 (lt_b rfl) rfl rfl dX1_talesHeardBy_13 ?_
        refine a_iload_n C0 3 dX1_talesHeardBy_16 rfl rfl ?_
        refine a_iald C0 _ (lt_b rfl) rfl hx.1 hx.2 dX1_talesHeardBy_17 ?_
        refine a_iload_n C0 1 dX1_talesHeardBy_18 rfl rfl ?_
        refine a_ishr C0 dX1_talesHeardBy_19 ?_
        refine a_iconst C0 1 dX1_talesHeardBy_20 rfl ?_
        refine a_iand C0 dX1_talesHeardBy_21 ?_
        refine a_iconst C0 1 dX1_talesHeardBy_22 rfl ?_
        refine a_icmp_ne C0 32 dX1_talesHeardBy_23 rfl (fun h23 => ?_) (fun h23 => ?_)
        · refine a_iinc (ls2 := [(3, _), (0, _), (1, _), (2, _)]) C0 3 1 dX1_talesHeardBy_32 rfl rfl (lt_b rfl) rfl ?_
          refine a_goto C0 4 dX1_talesHeardBy_35 rfl ?_
          refine AW.sub (ls2 := [(0, _), (1, _), (2, _), (3, _)]) [1, 2, 3, 0] rfl ?_
          exact ih (i + 1) _ _ (by omega) hlt (by rw [hxi, nI_1]) (by
            show _ = if decide ((M 7 i >>> (w &&& 31)) &&& 1 = 1) = true then _ else _
            first
              | (rw [if_neg (by simpa using h23)]; exact ha)
              | (rw [if_pos (by simpa using h23), ha, hxi]; rfl))
        · refine a_iload_n C0 2 dX1_talesHeardBy_26 rfl rfl ?_
          refine a_iconst C0 1 dX1_talesHeardBy_27 rfl ?_
          refine a_iload_n C0 3 dX1_talesHeardBy_28 rfl rfl ?_
          refine a_ishl C0 dX1_talesHeardBy_29 ?_
          refine a_ior C0 dX1_talesHeardBy_30 ?_
          refine a_istore_n (ls2 := [(2, _), (0, _), (1, _), (3, _)]) C0 dX1_talesHeardBy_31 rfl (lt_b rfl) rfl ?_
          refine a_iinc (ls2 := [(3, _), (2, _), (0, _), (1, _)]) C0 3 1 dX1_talesHeardBy_32 rfl rfl (lt_b rfl) rfl ?_
          refine a_goto C0 4 dX1_talesHeardBy_35 rfl ?_
          refine AW.sub (ls2 := [(0, _), (1, _), (2, _), (3, _)]) [2, 3, 1, 0] rfl ?_
          exact ih (i + 1) _ _ (by omega) hlt (by rw [hxi, nI_1]) (by
            show _ = if decide ((M 7 i >>> (w &&& 31)) &&& 1 = 1) = true then _ else _
            first
              | (rw [if_neg (by simpa using h23)]; exact ha)
              | (rw [if_pos (by simpa using h23), ha, hxi]; rfl))
  refine a_iconst C0 0 dX1_talesHeardBy_0 rfl ?_
  refine a_istore_n (ls2 := [(2, _), (0, _), (1, _)]) C0 dX1_talesHeardBy_1 rfl (lt_b rfl) rfl ?_
  refine a_iconst C0 0 dX1_talesHeardBy_2 rfl ?_
  refine a_istore_n (ls2 := [(3, _), (2, _), (0, _), (1, _)]) C0 dX1_talesHeardBy_3 rfl (lt_b rfl) rfl ?_
  refine AW.sub (ls2 := [(0, _), (1, _), (2, _), (3, _)]) [2, 3, 1, 0] rfl ?_
  exact lp (T + 1) 0 _ _ (by omega) (Nat.zero_le _) rfl rfl
