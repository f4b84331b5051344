
section AE
variable {p : Program} {l : Launch} {e : Env} {R : Room} {s : State} {m : MethodId} {args : Array Value} {below : List Frame} {meth : Method} {c : Code} {G : GE} {A : Nat → Prop} {N : Nat} {ad : Nat → Nat} {sh : SH} {nL cs sl : Nat} {Q : State → Prop} {pc : Nat} {ls : LV} {st : List Value} {M M2 : WM}
/-- the same cell, told otherwise -/
def EqC (a b : va_E) : Prop := a = b ∨ ∃ (cA : ClassId) (n : Nat) (f g : Nat → Int32), a = .inl (cA, n, .inl f) ∧ b = .inl (cA, n, .inl g) ∧ ∀ k, k < n → f k = g k
theorem EqC.at {D : va_G} {q : Nat} {a b : va_E} {H : Heap} (h : EqC a b) (ha : va_at D vwCl (q, a) H) : va_at D vwCl (q, b) H := by
  rcases h with rfl | ⟨cA, n, f, g, rfl, rfl, h⟩
  · exact ha
  · have ha : H[q]? = some (arrV cA n (fun j => .int (f j))) := ha
    show H[q]? = some (arrV cA n (fun j => .int (g j)))
    rw [ha]
    congr 1
    unfold arrV
    congr 2
    funext j
    show Value.int (f j.val) = Value.int (g j.val)
    rw [h j.val j.isLt]
theorem AW.ext (h : ∀ i, i < N → EqC (sh i (M i)) (sh i (M2 i))) (k : AW p l e R s m args below meth c G A N ad sh nL cs sl Q pc ls st M2) : AW p l e R s m args below meth c G A N ad sh nL cs sl Q pc ls st M :=
  fun H locs la hP hS hl => k H locs la (wC_P fun i hi => (h i hi).at (hP i _ (wC_at hi))) hS hl
end AE

set_option maxRecDepth 100000 in
set_option maxHeartbeats 4000000 in
theorem c_X1_loopFrom (l : Launch) (G : GE) {ad : Nat → Nat} {M : WM} {h : Int32} (hh : vp_in h 8) (hf : ∀ k, k < 8 → vp_in (M 2 k) 8) : CT l G yX1_loopFrom cX1_loopFrom 5 (some .int) 0 [.ref (ad 0), .int h] 8 ad (shP G ad) M (PI (fun r u => r = lpP M 8 0 h ∧ u = M)) := by
  refine CT.of (own := RX1) rfl rfl (le_b rfl) fun p e s m args below meth c A C0 hr => ?_
  refine AW.lo (ls2 := [(0, _), (1, _)]) rfl ?_
  have lp : ∀ (n : Nat) (i : Nat) (a b xi : Int32), 8 - i < n → (i ≤ 8) → (xi = nI i) → (vp_in b 8) → (lpP M (8 - i) a b = lpP M 8 0 h) → AW p l e (rmk 0) s m args below meth c G A 8 ad (shP G ad) 5 0 0 (MQ below (CQ G 8 ad (shP G ad) A (PI (fun r u => r = lpP M 8 0 h ∧ u = M))) args s 0 0 A) 7 [(0, .ref (ad 0)), (1, .int h), (2, .int a), (3, .int b), (4, .int xi)] [] M := by
    intro n
    induction n with
    | zero =>
      intro i a b xi hn
      exact absurd hn (Nat.not_lt_zero _)
    | succ n ih =>
      intro i a b xi hn hi hxi hb ha
      refine a_iload C0 4 dX1_loopFrom_7 rfl ?_
      refine a_bipush C0 8 dX1_loopFrom_9 rfl ?_
      refine a_icmp_ge C0 33 dX1_loopFrom_11 rfl (fun h11 => ?_) (fun h11 => ?_)
      · refine a_iload_n C0 2 dX1_loopFrom_33 rfl rfl ?_
        refine a_iret C0 hr dX1_loopFrom_34 ?_
        have e : i = 8 := Nat.le_antisymm hi (i_ge (T := 8) hxi rfl (by omega) (by omega) h11)
        subst e
        exact rt_ ha
      · have hlt : i < 8 := i_lt (T := 8) hxi rfl (by omega) (by omega) h11
        refine a_iload_n C0 2 dX1_loopFrom_14 rfl rfl ?_
        refine a_iconst C0 1 dX1_loopFrom_15 rfl ?_
        refine a_iload_n C0 3 dX1_loopFrom_16 rfl rfl ?_
        refine a_ishl C0 dX1_loopFrom_17 ?_
        refine a_ior C0 dX1_loopFrom_18 ?_
        refine a_istore_n (ls2 := [(2, _), (0, _), (1, _), (3, _), (4, _)]) C0 dX1_loopFrom_19 rfl (lt_b rfl) rfl ?_
        refine a_aload_n C0 1 dX1_loopFrom_20 rfl rfl ?_
        refine g_X1_15 C0 (lt_b rfl) rfl rfl dX1_loopFrom_21 ?_
        refine a_iload_n C0 3 dX1_loopFrom_24 rfl rfl ?_
        refine a_iald C0 _ (lt_b rfl) rfl hb rfl dX1_loopFrom_25 ?_
        refine a_istore_n (ls2 := [(3, _), (2, _), (0, _), (1, _), (4, _)]) C0 dX1_loopFrom_26 rfl (lt_b rfl) rfl ?_
        refine a_iinc (ls2 := [(4, _), (3, _), (2, _), (0, _), (1, _)]) C0 4 1 dX1_loopFrom_27 rfl rfl (lt_b rfl) rfl ?_
        refine a_goto C0 7 dX1_loopFrom_30 rfl ?_
        refine AW.sub (ls2 := [(0, _), (1, _), (2, _), (3, _), (4, _)]) [3, 4, 2, 1, 0] rfl ?_
        exact ih (i + 1) _ _ _ (by omega) hlt (by rw [hxi, nI_1]) (hf _ (vp_lt hb)) (by rw [← ha, show 8 - i = (8 - (i + 1)) + 1 by omega]; rfl)
  refine a_iconst C0 0 dX1_loopFrom_0 rfl ?_
  refine a_istore_n (ls2 := [(2, _), (0, _), (1, _)]) C0 dX1_loopFrom_1 rfl (lt_b rfl) rfl ?_
  refine a_iload_n C0 2 dX1_loopFrom_2 rfl rfl ?_
  refine a_istore_n (ls2 := [(3, _), (2, _), (0, _), (1, _)]) C0 dX1_loopFrom_3 rfl (lt_b rfl) rfl ?_
  refine a_iconst C0 0 dX1_loopFrom_4 rfl ?_
  refine a_istore (ls2 := [(4, _), (3, _), (2, _), (0, _), (1, _)]) C0 dX1_loopFrom_5 (lt_b rfl) rfl ?_
  refine AW.sub (ls2 := [(0, _), (1, _), (2, _), (3, _), (4, _)]) [3, 4, 2, 1, 0] rfl ?_
  exact lp 9 0 _ _ _ (by omega) (Nat.zero_le _) rfl hh rfl

def moveP : Nat → WM → Nat → WM
  | 0, P, _ => P
  | n + 1, P, t => if P 3 (ix (P 2 (ix (P 6 t)))) ≤ P 5 t then moveP n (bringP P t (P 2 (ix (P 6 t)))) t else P
def handP (P : WM) (t : Nat) : WM :=
  up2 (moveP (ix (doorsP P t)) P t) 5 t (held (moveP (ix (doorsP P t)) P t 5 t - (if boxP (moveP (ix (doorsP P t)) P t) (moveP (ix (doorsP P t)) P t 6 t) then coolsP (moveP (ix (doorsP P t)) P t) t / 2 else coolsP (moveP (ix (doorsP P t)) P t) t)))
def minP (P : WM) (t : Nat) : WM := up2 (handP P t) 0 9 (handP P t 0 9 + 1)
def minsP : Nat → WM → Nat → WM
  | 0, P, _ => P
  | n + 1, P, t => minP (minsP n P t) t
def handsP (P : WM) : Nat → WM
  | 0 => P
  | k + 1 => handP (handsP P k) k
def passP (P : WM) (T : Nat) : WM := up2 (handsP P T) 0 9 (handsP P T 0 9 + 1)
/-- what a walk wants of a Parish: T tales, its houses' friends and its tales' houses are houses -/
def WFP (P : WM) (T : Nat) : Prop := P 0 8 = nI T ∧ T ≤ 8 ∧ (∀ k, k < 8 → vp_in (P 2 k) 8) ∧ ∀ t, t < T → vp_in (P 6 t) 8
theorem WFP.bring {P : WM} {T t : Nat} {h : Int32} (w : WFP P T) (hh : vp_in h 8) : WFP (bringP P t h) T := by
  refine ⟨w.1, w.2.1, w.2.2.1, fun k hk => ?_⟩
  show vp_in (if k = t then h else P 6 k) 8
  split
  · exact hh
  · exact w.2.2.2 k hk
theorem WFP.move {T t : Nat} (ht : t < T) : ∀ (n : Nat) (P : WM), WFP P T → WFP (moveP n P t) T
  | 0, P, w => w
  | n + 1, P, w => by
    unfold moveP
    split
    · exact WFP.move ht n _ (w.bring (w.2.2.1 _ (vp_lt (w.2.2.2 t ht))))
    · exact w
theorem WFP.heat {P : WM} {T t : Nat} {v : Int32} (w : WFP P T) : WFP (up2 P 5 t v) T := ⟨w.1, w.2.1, w.2.2.1, w.2.2.2⟩
theorem WFP.minute {P : WM} {T : Nat} {v : Int32} (w : WFP P T) : WFP (up2 P 0 9 v) T := ⟨w.1, w.2.1, w.2.2.1, w.2.2.2⟩
theorem WFP.draw {P : WM} {T : Nat} {v : Int32} (w : WFP P T) : WFP (up2 P 0 10 v) T := ⟨w.1, w.2.1, w.2.2.1, w.2.2.2⟩
theorem WFP.hand {P : WM} {T t : Nat} (w : WFP P T) (ht : t < T) : WFP (handP P t) T := (WFP.move ht _ P w).heat
theorem WFP.min {P : WM} {T t : Nat} (w : WFP P T) (ht : t < T) : WFP (minP P t) T := (w.hand ht).minute
theorem WFP.mins {P : WM} {T t : Nat} (w : WFP P T) (ht : t < T) : ∀ n, WFP (minsP n P t) T
  | 0 => w
  | n + 1 => (WFP.mins w ht n).min ht
theorem WFP.hands {P : WM} {T : Nat} (w : WFP P T) : ∀ k, k ≤ T → WFP (handsP P k) T
  | 0, _ => w
  | k + 1, h => (WFP.hands w k (by omega)).hand (by omega)
theorem WFP.pass {P : WM} {T : Nat} (w : WFP P T) : WFP (passP P T) T := (w.hands T (Nat.le_refl T)).minute
theorem i_geY {x y : Int32} {i : Nat} (hx : x = nI i) (hi : i < 2 ^ 31) (h : y ≤ x) : ix y ≤ i := by
  subst hx
  have h1 := Int32.le_iff_toInt_le.mp h
  rw [nI_toInt hi] at h1
  show y.toInt.toNat ≤ i
  omega
theorem i_ltY {x y : Int32} {i : Nat} (hx : x = nI i) (hi : i < 2 ^ 31) (h : ¬ y ≤ x) : i < ix y := by
  subst hx
  have h1 : ¬ y.toInt ≤ (nI i).toInt := fun q => h (Int32.le_iff_toInt_le.mpr q)
  rw [nI_toInt hi] at h1
  show i < y.toInt.toNat
  omega
theorem ix_lt (y : Int32) : ix y < 2 ^ 31 := by
  have := y.toInt_lt
  show y.toInt.toNat < 2 ^ 31
  omega

set_option maxRecDepth 100000 in
set_option maxHeartbeats 4000000 in
theorem c_X1_handOnAndCool (l : Launch) (G : GE) {ad : Nat → Nat} {M : WM} {x : Int32} {t T : Nat} (hx : IX x t 8) (w0 : WFP M T) (ht : t < T) : CT l G yX1_handOnAndCool cX1_handOnAndCool 5 none 2 [.ref (ad 0), .int x] 8 ad (shP G ad) M (PV (fun u => u = handP M t)) := by
  refine CT.of (own := RX1) rfl rfl (le_b rfl) fun p e s m args below meth c A C0 hr => ?_
  refine AW.lo (ls2 := [(0, _), (1, _)]) rfl ?_
  have fin : ∀ M1 : WM, vp_in (M1 6 t) 8 → M1 = moveP (ix (doorsP M t)) M t → AW p l e (rmk 2) s m args below meth c G A 8 ad (shP G ad) 5 0 0 (MQ below (CQ G 8 ad (shP G ad) A (PV (fun u => u = handP M t))) args s 0 0 A) 58 [(0, .ref (ad 0)), (1, .int x)] [] M1 := by
    intro M1 h6 he
    refine a_aload_n C0 0 dX1_handOnAndCool_58 rfl rfl ?_
    refine a_iload_n C0 1 dX1_handOnAndCool_59 rfl rfl ?_
    refine a_callV _ 1 C0 EM.refl (c_X1_coolsOf l G hx) u_c_X1_coolsOf u_m_X1_86 u_im_X1_coolsOf u_se_X1_coolsOf u_in_X1 hy_X1_coolsOf rfl (lt_b rfl) rfl (hRk rfl) rfl rfl (le_b rfl) dX1_handOnAndCool_60 (k_ro EM.refl ?_)
    refine a_istore_n (ls2 := [(3, _), (0, _), (1, _)]) C0 dX1_handOnAndCool_63 rfl (lt_b rfl) rfl ?_
    refine a_aload_n C0 1 dX1_handOnAndCool_64 rfl rfl ?_
    refine g_X1_24 C0 (lt_b rfl) rfl rfl dX1_handOnAndCool_65 ?_
    refine a_iload_n C0 2 dX1_handOnAndCool_68 rfl rfl ?_
    refine a_aload_n C0 1 dX1_handOnAndCool_69 rfl rfl ?_
    refine g_X1_24 C0 (lt_b rfl) rfl rfl dX1_handOnAndCool_70 ?_
    refine a_iload_n C0 2 dX1_handOnAndCool_73 rfl rfl ?_
    refine a_iald C0 _ (lt_b rfl) rfl hx.1 hx.2 dX1_handOnAndCool_74 ?_
    refine a_aload_n C0 1 dX1_handOnAndCool_75 rfl rfl ?_
    refine a_aload_n C0 1 dX1_handOnAndCool_76 rfl rfl ?_
    refine g_X1_27 C0 (lt_b rfl) rfl rfl dX1_handOnAndCool_77 ?_
    refine a_iload_n C0 2 dX1_handOnAndCool_80 rfl rfl ?_
    refine a_iald C0 _ (lt_b rfl) rfl hx.1 hx.2 dX1_handOnAndCool_81 ?_
    refine a_callV _ 1 C0 EM.refl (c_X1_hasBox l G) u_c_X1_hasBox u_m_X1_89 u_im_X1_hasBox u_se_X1_hasBox u_in_X1 hy_X1_hasBox rfl (lt_b rfl) rfl (hRk rfl) rfl rfl (le_b rfl) dX1_handOnAndCool_82 (k_ro EM.refl ?_)
    refine a_if_eqb C0 94 dX1_handOnAndCool_85 rfl (fun h85 => ?_) (fun h85 => ?_)
    · refine a_iload_n C0 0 dX1_handOnAndCool_94 rfl rfl ?_
      refine a_isub C0 dX1_handOnAndCool_95 ?_
      refine a_callSN _ 1 C0 EM.z (c_X5_heldHeat l G) u_c_X5_heldHeat C0.nw.2.2.2.1 u_st_X5_heldHeat u_in_X5 hy_X5_heldHeat.2 (hRk rfl) rfl rfl (le_b rfl) dX1_handOnAndCool_96 (k_ro EM.z ?_)
      refine a_iast C0 _ (lt_b rfl) (fun _ => rfl) hx.1 hx.2 dX1_handOnAndCool_99 ?_
      refine a_vret C0 hr dX1_handOnAndCool_100 ?_
      refine rv_ ?_
      unfold handP
      rw [← he]
      first
        | rw [if_pos h85]
        | rw [if_neg h85]
    · refine a_iload_n C0 0 dX1_handOnAndCool_88 rfl rfl ?_
      refine a_iconst C0 2 dX1_handOnAndCool_89 rfl ?_
      refine a_idiv C0 dX1_handOnAndCool_90 (by decide) ?_
      refine a_goto C0 95 dX1_handOnAndCool_91 rfl ?_
      refine a_isub C0 dX1_handOnAndCool_95 ?_
      refine a_callSN _ 1 C0 EM.z (c_X5_heldHeat l G) u_c_X5_heldHeat C0.nw.2.2.2.1 u_st_X5_heldHeat u_in_X5 hy_X5_heldHeat.2 (hRk rfl) rfl rfl (le_b rfl) dX1_handOnAndCool_96 (k_ro EM.z ?_)
      refine a_iast C0 _ (lt_b rfl) (fun _ => rfl) hx.1 hx.2 dX1_handOnAndCool_99 ?_
      refine a_vret C0 hr dX1_handOnAndCool_100 ?_
      refine rv_ ?_
      unfold handP
      rw [← he]
      first
        | rw [if_pos h85]
        | rw [if_neg h85]
  have lp : ∀ (n : Nat) (i : Nat) (xi : Int32) (M1 : WM), ix (doorsP M t) - i < n → (i ≤ ix (doorsP M t)) → (xi = nI i) → (WFP M1 T) → (moveP (ix (doorsP M t) - i) M1 t = moveP (ix (doorsP M t)) M t) → AW p l e (rmk 2) s m args below meth c G A 8 ad (shP G ad) 5 0 0 (MQ below (CQ G 8 ad (shP G ad) A (PV (fun u => u = handP M t))) args s 0 0 A) 8 [(0, .ref (ad 0)), (1, .int x), (2, .int (doorsP M t)), (3, .int xi)] [] M1 := by
    intro n
    induction n with
    | zero =>
      intro i xi M1 hn
      exact absurd hn (Nat.not_lt_zero _)
    | succ n ih =>
      intro i xi M1 hn hi hxi hw hm
      refine a_iload_n C0 3 dX1_handOnAndCool_8 rfl rfl ?_
      refine a_iload_n C0 2 dX1_handOnAndCool_9 rfl rfl ?_
      refine a_icmp_ge C0 58 dX1_handOnAndCool_10 rfl (fun h10 => ?_) (fun h10 => ?_)
      · refine AW.sub (ls2 := [(0, _), (1, _)]) [0, 1] rfl ?_
        refine fin M1 (hw.2.2.2 t ht) ?_
        first
          | (have e : i = ix (doorsP M t) := Nat.le_antisymm hi (i_geY hxi (Nat.lt_of_le_of_lt hi (ix_lt _)) h10)
             rw [e, Nat.sub_self] at hm
             exact hm)
          | (rw [← hm, show ix (doorsP M t) - i = (ix (doorsP M t) - (i + 1)) + 1 by omega]
             exact (if_neg h39).symm)
      · have hlt : i < ix (doorsP M t) := i_ltY hxi (Nat.lt_of_le_of_lt hi (ix_lt _)) h10
        refine a_aload_n C0 0 dX1_handOnAndCool_13 rfl rfl ?_
        refine g_X1_15 C0 (lt_b rfl) rfl rfl dX1_handOnAndCool_14 ?_
        refine a_aload_n C0 0 dX1_handOnAndCool_17 rfl rfl ?_
        refine g_X1_27 C0 (lt_b rfl) rfl rfl dX1_handOnAndCool_18 ?_
        refine a_iload_n C0 1 dX1_handOnAndCool_21 rfl rfl ?_
        refine a_iald C0 _ (lt_b rfl) rfl hx.1 hx.2 dX1_handOnAndCool_22 ?_
        refine a_iald C0 _ (lt_b rfl) rfl (hw.2.2.2 t ht) rfl dX1_handOnAndCool_23 ?_
        refine a_istore (ls2 := [(4, _), (0, _), (1, _), (2, _), (3, _)]) C0 dX1_handOnAndCool_24 (lt_b rfl) rfl ?_
        refine a_aload_n C0 1 dX1_handOnAndCool_26 rfl rfl ?_
        refine g_X1_24 C0 (lt_b rfl) rfl rfl dX1_handOnAndCool_27 ?_
        refine a_iload_n C0 2 dX1_handOnAndCool_30 rfl rfl ?_
        refine a_iald C0 _ (lt_b rfl) rfl hx.1 hx.2 dX1_handOnAndCool_31 ?_
        refine a_aload_n C0 1 dX1_handOnAndCool_32 rfl rfl ?_
        refine g_X1_18 C0 (lt_b rfl) rfl rfl dX1_handOnAndCool_33 ?_
        refine a_iload C0 0 dX1_handOnAndCool_36 rfl ?_
        refine a_iald C0 _ (lt_b rfl) rfl (hw.2.2.1 _ (vp_lt (hw.2.2.2 t ht))) rfl dX1_handOnAndCool_38 ?_
        refine a_icmp_ge C0 45 dX1_handOnAndCool_39 rfl (fun h39 => ?_) (fun h39 => ?_)
        · refine a_aload_n C0 1 dX1_handOnAndCool_45 rfl rfl ?_
          refine a_iload_n C0 2 dX1_handOnAndCool_46 rfl rfl ?_
          refine a_iload C0 0 dX1_handOnAndCool_47 rfl ?_
          refine a_callV _ 2 C0 EM.refl (c_X1_bring l G hx) u_c_X1_bring u_m_X1_75 u_im_X1_bring u_se_X1_bring u_in_X1 hy_X1_bring rfl (lt_b rfl) rfl (hRk rfl) rfl rfl (le_b rfl) dX1_handOnAndCool_49 (k_vo ?_)
          refine a_iinc (ls2 := [(3, _), (4, _), (0, _), (1, _), (2, _)]) C0 4 1 dX1_handOnAndCool_52 rfl rfl (lt_b rfl) rfl ?_
          refine a_goto C0 8 dX1_handOnAndCool_55 rfl ?_
          refine AW.sub (ls2 := [(0, _), (1, _), (2, _), (3, _)]) [2, 3, 4, 0] rfl ?_
          exact ih (i + 1) _ _ (by omega) hlt (by rw [hxi, nI_1]) (hw.bring (hw.2.2.1 _ (vp_lt (hw.2.2.2 t ht)))) (by rw [← hm, show ix (doorsP M t) - i = (ix (doorsP M t) - (i + 1)) + 1 by omega]; exact (if_pos h39).symm)
        · refine a_goto C0 58 dX1_handOnAndCool_42 rfl ?_
          refine AW.sub (ls2 := [(0, _), (1, _)]) [1, 2] rfl ?_
          refine fin M1 (hw.2.2.2 t ht) ?_
          first
            | (have e : i = ix (doorsP M t) := Nat.le_antisymm hi (i_geY hxi (Nat.lt_of_le_of_lt hi (ix_lt _)) h10)
               rw [e, Nat.sub_self] at hm
               exact hm)
            | (rw [← hm, show ix (doorsP M t) - i = (ix (doorsP M t) - (i + 1)) + 1 by omega]
               exact (if_neg h39).symm)
  refine a_aload_n C0 0 dX1_handOnAndCool_0 rfl rfl ?_
  refine a_iload_n C0 1 dX1_handOnAndCool_1 rfl rfl ?_
  refine a_callV _ 1 C0 EM.refl (c_X1_doorsOf l G hx) u_c_X1_doorsOf u_m_X1_83 u_im_X1_doorsOf u_se_X1_doorsOf u_in_X1 hy_X1_doorsOf rfl (lt_b rfl) rfl (hRk rfl) rfl rfl (le_b rfl) dX1_handOnAndCool_2 (k_ro EM.refl ?_)
  refine a_istore_n (ls2 := [(2, _), (0, _), (1, _)]) C0 dX1_handOnAndCool_5 rfl (lt_b rfl) rfl ?_
  refine a_iconst C0 0 dX1_handOnAndCool_6 rfl ?_
  refine a_istore_n (ls2 := [(3, _), (2, _), (0, _), (1, _)]) C0 dX1_handOnAndCool_7 rfl (lt_b rfl) rfl ?_
  refine AW.sub (ls2 := [(0, _), (1, _), (2, _), (3, _)]) [2, 3, 1, 0] rfl ?_
  exact lp (ix (doorsP M t) + 1) 0 _ _ (by omega) (Nat.zero_le _) rfl w0 rfl
set_option maxRecDepth 100000 in
set_option maxHeartbeats 4000000 in
theorem c_X1_passMinuteOf (l : Launch) (G : GE) {ad : Nat → Nat} {M : WM} {x : Int32} {t T : Nat} (hx : IX x t 8) (w0 : WFP M T) (ht : t < T) : CT l G yX1_passMinuteOf cX1_passMinuteOf 2 none 3 [.ref (ad 0), .int x] 8 ad (shP G ad) M (PV (fun u => u = minP M t)) := by
  refine CT.of (own := RX1) rfl rfl (le_b rfl) fun p e s m args below meth c A C0 hr => ?_
  refine AW.lo (ls2 := [(0, _), (1, _)]) rfl ?_
  refine a_aload_n C0 0 dX1_passMinuteOf_0 rfl rfl ?_
  refine a_iload_n C0 1 dX1_passMinuteOf_1 rfl rfl ?_
  refine a_callV _ 1 C0 EM.refl (c_X1_handOnAndCool l G hx w0 ht) u_c_X1_handOnAndCool u_m_X1_64 u_im_X1_handOnAndCool u_se_X1_handOnAndCool u_in_X1 hy_X1_handOnAndCool rfl (lt_b rfl) rfl (hRk rfl) rfl rfl (le_b rfl) dX1_passMinuteOf_2 (k_vo ?_)
  refine a_aload_n C0 0 dX1_passMinuteOf_5 rfl rfl ?_
  refine a_dup C0 dX1_passMinuteOf_6 rfl ?_
  refine g_X1_49 C0 (lt_b rfl) rfl rfl dX1_passMinuteOf_7 ?_
  refine a_iconst C0 1 dX1_passMinuteOf_10 rfl ?_
  refine a_iadd C0 dX1_passMinuteOf_11 ?_
  refine p_X1_49 C0 (lt_b rfl) rfl (lt_b rfl) rfl rfl dX1_passMinuteOf_12 ?_
  refine a_vret C0 hr dX1_passMinuteOf_15 ?_
  exact rv_ rfl
set_option maxRecDepth 100000 in
set_option maxHeartbeats 4000000 in
theorem c_X1_passMinutesOf (l : Launch) (G : GE) {ad : Nat → Nat} {M : WM} {x y : Int32} {t T : Nat} (hx : IX x t 8) (w0 : WFP M T) (ht : t < T) : CT l G yX1_passMinutesOf cX1_passMinutesOf 4 none 4 [.ref (ad 0), .int x, .int y] 8 ad (shP G ad) M (PV (fun u => u = minsP (ix y) M t)) := by
  refine CT.of (own := RX1) rfl rfl (le_b rfl) fun p e s m args below meth c A C0 hr => ?_
  refine AW.lo (ls2 := [(0, _), (1, _), (2, _)]) rfl ?_
  have lp : ∀ (n : Nat) (i : Nat) (xi : Int32) (M1 : WM), ix y - i < n → (i ≤ ix y) → (xi = nI i) → (M1 = minsP i M t) → AW p l e (rmk 4) s m args below meth c G A 8 ad (shP G ad) 4 0 0 (MQ below (CQ G 8 ad (shP G ad) A (PV (fun u => u = minsP (ix y) M t))) args s 0 0 A) 2 [(0, .ref (ad 0)), (1, .int x), (2, .int y), (3, .int xi)] [] M1 := by
    intro n
    induction n with
    | zero =>
      intro i xi M1 hn
      exact absurd hn (Nat.not_lt_zero _)
    | succ n ih =>
      intro i xi M1 hn hi hxi hm
      refine a_iload_n C0 3 dX1_passMinutesOf_2 rfl rfl ?_
      refine a_iload_n C0 2 dX1_passMinutesOf_3 rfl rfl ?_
      refine a_icmp_ge C0 18 dX1_passMinutesOf_4 rfl (fun h4 => ?_) (fun h4 => ?_)
      · refine a_vret C0 hr dX1_passMinutesOf_18 ?_
        have e : i = ix y := Nat.le_antisymm hi (i_geY hxi (Nat.lt_of_le_of_lt hi (ix_lt _)) h4)
        subst e
        exact rv_ hm
      · have hlt : i < ix y := i_ltY hxi (Nat.lt_of_le_of_lt hi (ix_lt _)) h4
        have w1 : WFP M1 T := by
          rw [hm]
          exact w0.mins ht i
        refine a_aload_n C0 0 dX1_passMinutesOf_7 rfl rfl ?_
        refine a_iload_n C0 1 dX1_passMinutesOf_8 rfl rfl ?_
        refine a_callV _ 1 C0 EM.refl (c_X1_passMinuteOf l G hx w1 ht) u_c_X1_passMinuteOf u_m_X1_68 u_im_X1_passMinuteOf u_se_X1_passMinuteOf u_in_X1 hy_X1_passMinuteOf rfl (lt_b rfl) rfl (hRk rfl) rfl rfl (le_b rfl) dX1_passMinutesOf_9 (k_vo ?_)
        refine a_iinc (ls2 := [(3, _), (0, _), (1, _), (2, _)]) C0 3 1 dX1_passMinutesOf_12 rfl rfl (lt_b rfl) rfl ?_
        refine a_goto C0 2 dX1_passMinutesOf_15 rfl ?_
        refine AW.sub (ls2 := [(0, _), (1, _), (2, _), (3, _)]) [1, 2, 3, 0] rfl ?_
        exact ih (i + 1) _ _ (by omega) hlt (by rw [hxi, nI_1]) (by rw [hm]; rfl)
  refine a_iconst C0 0 dX1_passMinutesOf_0 rfl ?_
  refine a_istore_n (ls2 := [(3, _), (0, _), (1, _), (2, _)]) C0 dX1_passMinutesOf_1 rfl (lt_b rfl) rfl ?_
  refine AW.sub (ls2 := [(0, _), (1, _), (2, _), (3, _)]) [1, 2, 3, 0] rfl ?_
  exact lp (ix y + 1) 0 _ _ (by omega) (Nat.zero_le _) rfl rfl
set_option maxRecDepth 100000 in
set_option maxHeartbeats 4000000 in
theorem c_X1_passMinute (l : Launch) (G : GE) {ad : Nat → Nat} {M : WM} {T : Nat} (w0 : WFP M T) : CT l G yX1_passMinute cX1_passMinute 2 none 3 [.ref (ad 0)] 8 ad (shP G ad) M (PV (fun u => u = passP M T)) := by
  refine CT.of (own := RX1) rfl rfl (le_b rfl) fun p e s m args below meth c A C0 hr => ?_
  refine AW.lo (ls2 := [(0, _)]) rfl ?_
  have lp : ∀ (n : Nat) (i : Nat) (xi : Int32) (M1 : WM), T - i < n → (i ≤ T) → (xi = nI i) → (WFP M1 T) → (M1 = handsP M i) → AW p l e (rmk 3) s m args below meth c G A 8 ad (shP G ad) 2 0 0 (MQ below (CQ G 8 ad (shP G ad) A (PV (fun u => u = passP M T))) args s 0 0 A) 2 [(0, .ref (ad 0)), (1, .int xi)] [] M1 := by
    intro n
    induction n with
    | zero =>
      intro i xi M1 hn
      exact absurd hn (Nat.not_lt_zero _)
    | succ n ih =>
      intro i xi M1 hn hi hxi w1 hm
      have hT8 := w1.2.1
      refine a_iload_n C0 1 dX1_passMinute_2 rfl rfl ?_
      refine a_aload_n C0 0 dX1_passMinute_3 rfl rfl ?_
      refine g_X1_46 C0 (lt_b rfl) rfl rfl dX1_passMinute_4 ?_
      refine a_icmp_ge C0 21 dX1_passMinute_7 rfl (fun h7 => ?_) (fun h7 => ?_)
      · refine a_aload_n C0 0 dX1_passMinute_21 rfl rfl ?_
        refine a_dup C0 dX1_passMinute_22 rfl ?_
        refine g_X1_49 C0 (lt_b rfl) rfl rfl dX1_passMinute_23 ?_
        refine a_iconst C0 1 dX1_passMinute_26 rfl ?_
        refine a_iadd C0 dX1_passMinute_27 ?_
        refine p_X1_49 C0 (lt_b rfl) rfl (lt_b rfl) rfl rfl dX1_passMinute_28 ?_
        refine a_vret C0 hr dX1_passMinute_31 ?_
        have e : i = T := Nat.le_antisymm hi (i_ge hxi w1.1 (by omega) (by omega) h7)
        subst e
        refine rv_ ?_
        rw [hm]
        rfl
      · have hlt : i < T := i_lt hxi w1.1 (by omega) (by omega) h7
        have hx : IX xi i 8 := IX.eqn hxi (by omega) (by decide)
        refine a_aload_n C0 0 dX1_passMinute_10 rfl rfl ?_
        refine a_iload_n C0 1 dX1_passMinute_11 rfl rfl ?_
        refine a_callV _ 1 C0 EM.refl (c_X1_handOnAndCool l G hx w1 hlt) u_c_X1_handOnAndCool u_m_X1_64 u_im_X1_handOnAndCool u_se_X1_handOnAndCool u_in_X1 hy_X1_handOnAndCool rfl (lt_b rfl) rfl (hRk rfl) rfl rfl (le_b rfl) dX1_passMinute_12 (k_vo ?_)
        refine a_iinc (ls2 := [(1, _), (0, _)]) C0 1 1 dX1_passMinute_15 rfl rfl (lt_b rfl) rfl ?_
        refine a_goto C0 2 dX1_passMinute_18 rfl ?_
        refine AW.sub (ls2 := [(0, _), (1, _)]) [1, 0] rfl ?_
        exact ih (i + 1) _ _ (by omega) hlt (by rw [hxi, nI_1]) (w1.hand hlt) (by rw [hm]; rfl)
  refine a_iconst C0 0 dX1_passMinute_0 rfl ?_
  refine a_istore_n (ls2 := [(1, _), (0, _)]) C0 dX1_passMinute_1 rfl (lt_b rfl) rfl ?_
  refine AW.sub (ls2 := [(0, _), (1, _)]) [1, 0] rfl ?_
  exact lp (T + 1) 0 _ _ (by omega) (Nat.zero_le _) rfl w0 rfl

theorem nI_bv (x : Int32) : x = nI x.toBitVec.toNat := by
  apply Int32.toBitVec_inj.mp
  show x.toBitVec = BitVec.ofNat 32 x.toBitVec.toNat
  simp
theorem ush16 (z : Int32) : ∃ n, n < 65536 ∧ ushr z 16 = nI n := by
  refine ⟨z.toBitVec.toNat / 2 ^ 16, ?_, ?_⟩
  · have := z.toBitVec.isLt
    omega
  · have h := pk_ushr z 16 16 rfl
    rw [nI_bv (ushr z 16)]
    exact congrArg nI h
theorem rm_N {a d : Nat} (ha : a < 2 ^ 31) (h0 : 0 < d) (hd : d < 2 ^ 31) : rm (nI a) (nI d) = nI (a % d) := pk_rem ha h0 hd
theorem vp_le {x : Int32} {a b : Nat} (h : vp_in x a) (hab : a ≤ b) : vp_in x b := fun q => h (q.imp id fun r => Nat.le_trans hab r)
theorem rm16 (z : Int32) {y : Int32} {d : Nat} (hy : y = nI d) (h0 : 0 < d) (hd : d < 2 ^ 31) : vp_in (rm (ushr z 16) y) d := by
  obtain ⟨n, hn, e⟩ := ush16 z
  rw [e, hy, rm_N (by omega) h0 hd]
  exact vp_in_nI (Nat.mod_lt _ h0) hd
def drP (P : WM) : WM := up2 P 0 10 (drawZ (P 0 10))
def dvP (P : WM) : Int32 := ushr (drawZ (P 0 10)) 16
def drawsP (P : WM) (T : Nat) : WM :=
  if P 0 8 ≤ 0 then passP P T
  else if rm (dvP (drP P)) 100 < P 1 3 then passP (bringP (drP (drP (drP P))) (ix (rm (dvP P) (P 0 8))) (rm (dvP (drP (drP P))) 8)) T
  else passP (drP (drP P)) T
theorem WFP.dr {P : WM} {T : Nat} (w : WFP P T) : WFP (drP P) T := w.draw
theorem WFP.pos {P : WM} {T : Nat} (w : WFP P T) (h : ¬ P 0 8 ≤ 0) : 0 < T := by
  rcases Nat.eq_zero_or_pos T with h0 | h0
  · exact absurd (by rw [w.1, h0]; decide) h
  · exact h0
theorem WFP.draws {P : WM} {T : Nat} (w : WFP P T) : WFP (drawsP P T) T := by
  unfold drawsP
  split
  · exact w.pass
  · split
    · exact (w.dr.dr.dr.bring (rm16 _ (y := 8) (d := 8) rfl (by decide) (by decide))).pass
    · exact w.dr.dr.pass
def lawF (k : Nat) : Int32 := (st_vals 0).getD k 0
def firstP (P : WM) : WM := fun c => match c with
  | 0 => fun j => if j = 7 ∨ j = 8 ∨ j = 9 then 0 else P 0 j
  | 1 => lawF
  | 2 => fun h => nI ((h + 1) % 8)
  | 3 => fun _ => 1
  | c + 4 => P (c + 4)
def cpP (P : WM) : WM := fun c => if c < 8 then P (8 + c) else P c
theorem cpy_eq {f g : Nat → Int32} {n k : Nat} (h : k < n) : va_cpy f g 0 0 n k = f k := by
  rw [pk_cpy_in (Nat.zero_le _) (by omega)]
  congr 1
  omega
theorem eqc_i {cA : ClassId} {n : Nat} {f g : Nat → Int32} (h : ∀ k, k < n → f k = g k) : EqC (.inl (cA, n, .inl f)) (.inl (cA, n, .inl g)) := Or.inr ⟨cA, n, f, g, rfl, rfl, h⟩

set_option maxRecDepth 100000 in
set_option maxHeartbeats 4000000 in
theorem c_X1_passMinuteByDraws (l : Launch) (G : GE) {ad : Nat → Nat} {M : WM} {T : Nat} (w0 : WFP M T) : CT l G yX1_passMinuteByDraws cX1_passMinuteByDraws 2 none 4 [.ref (ad 0)] 8 ad (shP G ad) M (PV (fun u => u = drawsP M T)) := by
  refine CT.of (own := RX1) rfl rfl (le_b rfl) fun p e s m args below meth c A C0 hr => ?_
  refine AW.lo (ls2 := [(0, _)]) rfl ?_
  refine a_aload_n C0 0 dX1_passMinuteByDraws_0 rfl rfl ?_
  refine g_X1_46 C0 (lt_b rfl) rfl rfl dX1_passMinuteByDraws_1 ?_
  refine a_if_le C0 45 dX1_passMinuteByDraws_4 rfl (fun h4 => ?_) (fun h4 => ?_)
  · refine a_aload_n C0 0 dX1_passMinuteByDraws_45 rfl rfl ?_
    refine a_callV _ 0 C0 EM.refl (c_X1_passMinute l G (by first | exact w0 | exact w1 | exact w0.dr.dr)) u_c_X1_passMinute u_m_X1_79 u_im_X1_passMinute u_se_X1_passMinute u_in_X1 hy_X1_passMinute rfl (lt_b rfl) rfl (hRk rfl) rfl rfl (le_b rfl) dX1_passMinuteByDraws_46 (k_vo ?_)
    refine a_vret C0 hr dX1_passMinuteByDraws_49 ?_
    refine rv_ ?_
    unfold drawsP
    first
      | (rw [if_neg h4]; exact (if_neg (Int32.not_lt.mpr h30)).symm)
      | (rw [if_neg h4]; exact (if_pos (Int32.not_le.mp h30)).symm)
      | exact (if_pos h4).symm
  · have hT0 : 0 < T := w0.pos h4
    have hne : ¬ M 0 8 = 0 := by
      rw [w0.1]
      exact nI_ne0 hT0 (by have := w0.2.1; omega)
    have hx : IX (rm (dvP M) (M 0 8)) (ix (rm (dvP M) (M 0 8))) 8 := IX.v (vp_le (rm16 _ w0.1 hT0 (by have := w0.2.1; omega)) w0.2.1)
    refine a_aload_n C0 0 dX1_passMinuteByDraws_7 rfl rfl ?_
    refine a_callV _ 0 C0 EM.refl (c_X1_draw l G) u_c_X1_draw u_m_X1_71 u_im_X1_draw u_se_X1_draw u_in_X1 hy_X1_draw rfl (lt_b rfl) rfl (hRk rfl) rfl rfl (le_b rfl) dX1_passMinuteByDraws_8 (k_de ?_)
    refine a_aload_n C0 0 dX1_passMinuteByDraws_11 rfl rfl ?_
    refine g_X1_46 C0 (lt_b rfl) rfl rfl dX1_passMinuteByDraws_12 ?_
    refine a_irem C0 dX1_passMinuteByDraws_15 hne ?_
    refine a_istore_n (ls2 := [(1, _), (0, _)]) C0 dX1_passMinuteByDraws_16 rfl (lt_b rfl) rfl ?_
    refine a_aload_n C0 1 dX1_passMinuteByDraws_17 rfl rfl ?_
    refine a_callV _ 0 C0 EM.refl (c_X1_draw l G) u_c_X1_draw u_m_X1_71 u_im_X1_draw u_se_X1_draw u_in_X1 hy_X1_draw rfl (lt_b rfl) rfl (hRk rfl) rfl rfl (le_b rfl) dX1_passMinuteByDraws_18 (k_de ?_)
    refine a_bipush C0 100 dX1_passMinuteByDraws_21 rfl ?_
    refine a_irem C0 dX1_passMinuteByDraws_23 (by decide) ?_
    refine a_aload_n C0 1 dX1_passMinuteByDraws_24 rfl rfl ?_
    refine g_X1_9 C0 (lt_b rfl) rfl rfl dX1_passMinuteByDraws_25 ?_
    refine a_iconst C0 3 dX1_passMinuteByDraws_28 rfl ?_
    refine a_iald C0 3 (lt_b rfl) rfl (vq rfl) rfl dX1_passMinuteByDraws_29 ?_
    refine a_icmp_ge C0 45 dX1_passMinuteByDraws_30 rfl (fun h30 => ?_) (fun h30 => ?_)
    · refine a_aload_n C0 1 dX1_passMinuteByDraws_45 rfl rfl ?_
      refine a_callV _ 0 C0 EM.refl (c_X1_passMinute l G (by first | exact w0 | exact w1 | exact w0.dr.dr)) u_c_X1_passMinute u_m_X1_79 u_im_X1_passMinute u_se_X1_passMinute u_in_X1 hy_X1_passMinute rfl (lt_b rfl) rfl (hRk rfl) rfl rfl (le_b rfl) dX1_passMinuteByDraws_46 (k_vo ?_)
      refine a_vret C0 hr dX1_passMinuteByDraws_49 ?_
      refine rv_ ?_
      unfold drawsP
      first
        | (rw [if_neg h4]; exact (if_neg (Int32.not_lt.mpr h30)).symm)
        | (rw [if_neg h4]; exact (if_pos (Int32.not_le.mp h30)).symm)
        | exact (if_pos h4).symm
    · refine a_aload_n C0 1 dX1_passMinuteByDraws_33 rfl rfl ?_
      refine a_iload_n C0 0 dX1_passMinuteByDraws_34 rfl rfl ?_
      refine a_aload_n C0 1 dX1_passMinuteByDraws_35 rfl rfl ?_
      refine a_callV _ 0 C0 EM.refl (c_X1_draw l G) u_c_X1_draw u_m_X1_71 u_im_X1_draw u_se_X1_draw u_in_X1 hy_X1_draw rfl (lt_b rfl) rfl (hRk rfl) rfl rfl (le_b rfl) dX1_passMinuteByDraws_36 (k_de ?_)
      refine a_bipush C0 8 dX1_passMinuteByDraws_39 rfl ?_
      refine a_irem C0 dX1_passMinuteByDraws_41 (by decide) ?_
      refine a_callV _ 2 C0 EM.refl (c_X1_bring l G hx) u_c_X1_bring u_m_X1_75 u_im_X1_bring u_se_X1_bring u_in_X1 hy_X1_bring rfl (lt_b rfl) rfl (hRk rfl) rfl rfl (le_b rfl) dX1_passMinuteByDraws_42 (k_vo ?_)
      have w1 : WFP (bringP (drP (drP (drP M))) (ix (rm (dvP M) (M 0 8))) (rm (dvP (drP (drP M))) 8)) T := w0.dr.dr.dr.bring (rm16 _ (y := 8) (d := 8) rfl (by decide) (by decide))
      refine a_aload_n C0 1 dX1_passMinuteByDraws_45 rfl rfl ?_
      refine a_callV _ 0 C0 EM.refl (c_X1_passMinute l G (by first | exact w0 | exact w1 | exact w0.dr.dr)) u_c_X1_passMinute u_m_X1_79 u_im_X1_passMinute u_se_X1_passMinute u_in_X1 hy_X1_passMinute rfl (lt_b rfl) rfl (hRk rfl) rfl rfl (le_b rfl) dX1_passMinuteByDraws_46 (k_vo ?_)
      refine a_vret C0 hr dX1_passMinuteByDraws_49 ?_
      refine rv_ ?_
      unfold drawsP
      first
        | (rw [if_neg h4]; exact (if_neg (Int32.not_lt.mpr h30)).symm)
        | (rw [if_neg h4]; exact (if_pos (Int32.not_le.mp h30)).symm)
        | exact (if_pos h4).symm
set_option maxRecDepth 100000 in
set_option maxHeartbeats 4000000 in
theorem c_X1_makeFirst (l : Launch) (G : GE) {ad : Nat → Nat} {M : WM}  : CT l G yX1_makeFirst cX1_makeFirst 2 none 0 [.ref (ad 0)] 8 ad (shP G ad) M (PV (fun u => u = firstP M)) := by
  refine CT.of (own := RX1) rfl rfl (le_b rfl) fun p e s m args below meth c A C0 hr => ?_
  refine AW.lo (ls2 := [(0, _)]) rfl ?_
  have lq : ∀ (n : Nat) (i : Nat) (xi : Int32) (M1 : WM), 8 - i < n → (i ≤ 8) → (xi = nI i) → (∀ k, k < 4 → M1 1 k = lawF k) → (∀ k, k < i → M1 2 k = nI ((k + 1) % 8)) → (∀ k, k < i → M1 3 k = 1) → (∀ q, q ≠ 1 → q ≠ 2 → q ≠ 3 → M1 q = M q) → AW p l e (rmk 0) s m args below meth c G A 8 ad (shP G ad) 2 0 0 (MQ below (CQ G 8 ad (shP G ad) A (PV (fun u => u = firstP M))) args s 0 0 A) 26 [(0, .ref (ad 0)), (1, .int xi)] [] M1 := by
    intro n
    induction n with
    | zero =>
      intro i xi M1 hn
      exact absurd hn (Nat.not_lt_zero _)
    | succ n ih =>
      intro i xi M1 hn hi hxi g1 g2 g3 go
      refine a_iload_n C0 1 dX1_makeFirst_26 rfl rfl ?_
      refine a_bipush C0 8 dX1_makeFirst_27 rfl ?_
      refine a_icmp_ge C0 57 dX1_makeFirst_29 rfl (fun h29 => ?_) (fun h29 => ?_)
      · refine a_aload_n C0 0 dX1_makeFirst_57 rfl rfl ?_
        refine a_iconst C0 0 dX1_makeFirst_58 rfl ?_
        refine p_X1_43 C0 (lt_b rfl) rfl (lt_b rfl) rfl rfl dX1_makeFirst_59 ?_
        refine a_aload_n C0 0 dX1_makeFirst_62 rfl rfl ?_
        refine a_iconst C0 0 dX1_makeFirst_63 rfl ?_
        refine p_X1_46 C0 (lt_b rfl) rfl (lt_b rfl) rfl rfl dX1_makeFirst_64 ?_
        refine a_aload_n C0 0 dX1_makeFirst_67 rfl rfl ?_
        refine a_iconst C0 0 dX1_makeFirst_68 rfl ?_
        refine p_X1_49 C0 (lt_b rfl) rfl (lt_b rfl) rfl rfl dX1_makeFirst_69 ?_
        have e : i = 8 := Nat.le_antisymm hi (i_ge (T := 8) hxi rfl (by omega) (by omega) h29)
        subst e
        refine AW.ext (M2 := firstP M) (fun i hi => ?_) ?_
        · match i, hi with
          | 0, _ =>
            have h0 := go 0 (by decide) (by decide) (by decide)
            refine Or.inl ?_
            show (Sum.inr (1, [.ref (ad 1), .ref (ad 2), .ref (ad 3), .ref (ad 4), .ref (ad 5), .ref (ad 6), .ref (ad 7), .int 0, .int 0, .int 0, .int (M1 0 10)]) : va_E) = _
            rw [h0]
            rfl
          | 1, _ => exact eqc_i g1
          | 2, _ => exact eqc_i g2
          | 3, _ => exact eqc_i g3
          | 4, _ => exact eqc_i fun k _ => congrFun (go 4 (by decide) (by decide) (by decide)) k
          | 5, _ => exact eqc_i fun k _ => congrFun (go 5 (by decide) (by decide) (by decide)) k
          | 6, _ => exact eqc_i fun k _ => congrFun (go 6 (by decide) (by decide) (by decide)) k
          | 7, _ => exact eqc_i fun k _ => congrFun (go 7 (by decide) (by decide) (by decide)) k
        refine a_vret C0 hr dX1_makeFirst_72 ?_
        exact rv_ rfl
      · have hlt : i < 8 := i_lt (T := 8) hxi rfl (by omega) (by omega) h29
        have hx : IX xi i 8 := IX.eqn hxi hlt (by decide)
        refine a_aload_n C0 0 dX1_makeFirst_32 rfl rfl ?_
        refine g_X1_15 C0 (lt_b rfl) rfl rfl dX1_makeFirst_33 ?_
        refine a_iload_n C0 1 dX1_makeFirst_36 rfl rfl ?_
        refine a_iload_n C0 1 dX1_makeFirst_37 rfl rfl ?_
        refine a_iconst C0 1 dX1_makeFirst_38 rfl ?_
        refine a_iadd C0 dX1_makeFirst_39 ?_
        refine a_bipush C0 8 dX1_makeFirst_40 rfl ?_
        refine a_irem C0 dX1_makeFirst_42 (by decide) ?_
        refine a_iast C0 _ (lt_b rfl) (fun _ => rfl) hx.1 hx.2 dX1_makeFirst_43 ?_
        refine a_aload_n C0 0 dX1_makeFirst_44 rfl rfl ?_
        refine g_X1_18 C0 (lt_b rfl) rfl rfl dX1_makeFirst_45 ?_
        refine a_iload_n C0 1 dX1_makeFirst_48 rfl rfl ?_
        refine a_iconst C0 1 dX1_makeFirst_49 rfl ?_
        refine a_iast C0 _ (lt_b rfl) (fun _ => rfl) hx.1 hx.2 dX1_makeFirst_50 ?_
        refine a_iinc (ls2 := [(1, _), (0, _)]) C0 1 1 dX1_makeFirst_51 rfl rfl (lt_b rfl) rfl ?_
        refine a_goto C0 26 dX1_makeFirst_54 rfl ?_
        refine AW.sub (ls2 := [(0, _), (1, _)]) [1, 0] rfl ?_
        exact ih (i + 1) _ _ (by omega) hlt (by rw [hxi, nI_1]) g1
          (fun k hk => by
            show (if k = i then (xi + 1 - (xi + 1) / 8 * 8) else M1 2 k) = _
            split
            · next h =>
              subst h
              rw [hxi, nI_1]
              exact rm_N (a := k + 1) (d := 8) (by omega) (by decide) (by decide)
            · exact g2 k (by omega))
          (fun k hk => by
            show (if k = i then (1 : Int32) else M1 3 k) = _
            split
            · rfl
            · exact g3 k (by omega))
          (fun q q1 q2 q3 => by
            rw [← go q q1 q2 q3]
            unfold up2
            funext b
            rw [if_neg q3, if_neg q2])
  have lp : ∀ (n : Nat) (i : Nat) (xi : Int32) (M1 : WM), 4 - i < n → (i ≤ 4) → (xi = nI i) → (∀ k, k < i → M1 1 k = lawF k) → (∀ q, q ≠ 1 → M1 q = M q) → AW p l e (rmk 0) s m args below meth c G A 8 ad (shP G ad) 2 0 0 (MQ below (CQ G 8 ad (shP G ad) A (PV (fun u => u = firstP M))) args s 0 0 A) 2 [(0, .ref (ad 0)), (1, .int xi)] [] M1 := by
    intro n
    induction n with
    | zero =>
      intro i xi M1 hn
      exact absurd hn (Nat.not_lt_zero _)
    | succ n ih =>
      intro i xi M1 hn hi hxi g1 go
      refine a_iload_n C0 1 dX1_makeFirst_2 rfl rfl ?_
      refine a_iconst C0 4 dX1_makeFirst_3 rfl ?_
      refine a_icmp_ge C0 24 dX1_makeFirst_4 rfl (fun h4 => ?_) (fun h4 => ?_)
      · refine a_iconst C0 0 dX1_makeFirst_24 rfl ?_
        refine a_istore_n (ls2 := [(1, _), (0, _)]) C0 dX1_makeFirst_25 rfl (lt_b rfl) rfl ?_
        refine AW.sub (ls2 := [(0, _), (1, _)]) [1, 0] rfl ?_
        have e : i = 4 := Nat.le_antisymm hi (i_ge (T := 4) hxi rfl (by omega) (by omega) h4)
        subst e
        exact lq 9 0 _ _ (by omega) (Nat.zero_le _) rfl g1 (fun _ h => absurd h (Nat.not_lt_zero _)) (fun _ h => absurd h (Nat.not_lt_zero _)) (fun q q1 _ _ => go q q1)
      · have hlt : i < 4 := i_lt (T := 4) hxi rfl (by omega) (by omega) h4
        have hx : IX xi i 4 := IX.eqn hxi hlt (by decide)
        refine a_aload_n C0 0 dX1_makeFirst_7 rfl rfl ?_
        refine g_X1_9 C0 (lt_b rfl) rfl rfl dX1_makeFirst_8 ?_
        refine a_iload_n C0 1 dX1_makeFirst_11 rfl rfl ?_
        refine a_getsN C0 0 (lt_b rfl) C0.nw.2.1 dX1_makeFirst_12 ?_
        refine a_iload_n C0 1 dX1_makeFirst_15 rfl rfl ?_
        refine a_ti C0 0 _ (lt_b rfl) hx.1 hx.2 dX1_makeFirst_16 ?_
        refine a_iast C0 _ (lt_b rfl) (fun _ => rfl) hx.1 hx.2 dX1_makeFirst_17 ?_
        refine a_iinc (ls2 := [(1, _), (0, _)]) C0 1 1 dX1_makeFirst_18 rfl rfl (lt_b rfl) rfl ?_
        refine a_goto C0 2 dX1_makeFirst_21 rfl ?_
        refine AW.sub (ls2 := [(0, _), (1, _)]) [1, 0] rfl ?_
        exact ih (i + 1) _ _ (by omega) hlt (by rw [hxi, nI_1])
          (fun k hk => by
            show (if k = i then lawF i else M1 1 k) = _
            split
            · next h => rw [h]
            · exact g1 k (by omega))
          (fun q q1 => by
            rw [← go q q1]
            unfold up2
            funext b
            rw [if_neg q1])
  refine a_iconst C0 0 dX1_makeFirst_0 rfl ?_
  refine a_istore_n (ls2 := [(1, _), (0, _)]) C0 dX1_makeFirst_1 rfl (lt_b rfl) rfl ?_
  refine AW.sub (ls2 := [(0, _), (1, _)]) [1, 0] rfl ?_
  exact lp 5 0 _ _ (by omega) (Nat.zero_le _) rfl (fun _ h => absurd h (Nat.not_lt_zero _)) (fun _ _ => rfl)
set_option maxRecDepth 100000 in
set_option maxHeartbeats 4000000 in
theorem c_X1_copyFrom (l : Launch) (G : GE) {ad : Nat → Nat} {M : WM}  : CT l G yX1_copyFrom cX1_copyFrom 2 none 1 [.ref (ad 0), .ref (ad 8)] 16 ad (shPP G ad) M (PV (fun u => u = cpP M)) := by
  refine CT.of (own := RX1) rfl rfl (le_b rfl) fun p e s m args below meth c A C0 hr => ?_
  refine AW.lo (ls2 := [(0, _), (1, _)]) rfl ?_
  refine a_aload_n C0 1 dX1_copyFrom_0 rfl rfl ?_
  refine g_X1_9 C0 (lt_b rfl) rfl rfl dX1_copyFrom_1 ?_
  refine a_iconst C0 0 dX1_copyFrom_4 rfl ?_
  refine a_aload_n C0 0 dX1_copyFrom_5 rfl rfl ?_
  refine g_X1_9 C0 (lt_b rfl) rfl rfl dX1_copyFrom_6 ?_
  refine a_iconst C0 0 dX1_copyFrom_9 rfl ?_
  refine a_iconst C0 4 dX1_copyFrom_10 rfl ?_
  refine a_copy C0 4 u_m_X1_52 u_na_O_arraycopy u_st_O_arraycopy u_in_J10 (lt_b rfl) (lt_b rfl) rfl (fun _ => rfl) rfl rfl (by decide) rfl (le_b rfl) (le_b rfl) ⟨le_b rfl, le_b rfl⟩ dX1_copyFrom_11 ?_
  refine a_aload_n C0 1 dX1_copyFrom_14 rfl rfl ?_
  refine g_X1_15 C0 (lt_b rfl) rfl rfl dX1_copyFrom_15 ?_
  refine a_iconst C0 0 dX1_copyFrom_18 rfl ?_
  refine a_aload_n C0 0 dX1_copyFrom_19 rfl rfl ?_
  refine g_X1_15 C0 (lt_b rfl) rfl rfl dX1_copyFrom_20 ?_
  refine a_iconst C0 0 dX1_copyFrom_23 rfl ?_
  refine a_bipush C0 8 dX1_copyFrom_24 rfl ?_
  refine a_copy C0 8 u_m_X1_52 u_na_O_arraycopy u_st_O_arraycopy u_in_J10 (lt_b rfl) (lt_b rfl) rfl (fun _ => rfl) rfl rfl (by decide) rfl (le_b rfl) (le_b rfl) ⟨le_b rfl, le_b rfl⟩ dX1_copyFrom_26 ?_
  refine a_aload_n C0 1 dX1_copyFrom_29 rfl rfl ?_
  refine g_X1_18 C0 (lt_b rfl) rfl rfl dX1_copyFrom_30 ?_
  refine a_iconst C0 0 dX1_copyFrom_33 rfl ?_
  refine a_aload_n C0 0 dX1_copyFrom_34 rfl rfl ?_
  refine g_X1_18 C0 (lt_b rfl) rfl rfl dX1_copyFrom_35 ?_
  refine a_iconst C0 0 dX1_copyFrom_38 rfl ?_
  refine a_bipush C0 8 dX1_copyFrom_39 rfl ?_
  refine a_copy C0 8 u_m_X1_52 u_na_O_arraycopy u_st_O_arraycopy u_in_J10 (lt_b rfl) (lt_b rfl) rfl (fun _ => rfl) rfl rfl (by decide) rfl (le_b rfl) (le_b rfl) ⟨le_b rfl, le_b rfl⟩ dX1_copyFrom_41 ?_
  refine a_aload_n C0 1 dX1_copyFrom_44 rfl rfl ?_
  refine g_X1_21 C0 (lt_b rfl) rfl rfl dX1_copyFrom_45 ?_
  refine a_iconst C0 0 dX1_copyFrom_48 rfl ?_
  refine a_aload_n C0 0 dX1_copyFrom_49 rfl rfl ?_
  refine g_X1_21 C0 (lt_b rfl) rfl rfl dX1_copyFrom_50 ?_
  refine a_iconst C0 0 dX1_copyFrom_53 rfl ?_
  refine a_bipush C0 8 dX1_copyFrom_54 rfl ?_
  refine a_copy C0 8 u_m_X1_52 u_na_O_arraycopy u_st_O_arraycopy u_in_J10 (lt_b rfl) (lt_b rfl) rfl (fun _ => rfl) rfl rfl (by decide) rfl (le_b rfl) (le_b rfl) ⟨le_b rfl, le_b rfl⟩ dX1_copyFrom_56 ?_
  refine a_aload_n C0 1 dX1_copyFrom_59 rfl rfl ?_
  refine g_X1_24 C0 (lt_b rfl) rfl rfl dX1_copyFrom_60 ?_
  refine a_iconst C0 0 dX1_copyFrom_63 rfl ?_
  refine a_aload_n C0 0 dX1_copyFrom_64 rfl rfl ?_
  refine g_X1_24 C0 (lt_b rfl) rfl rfl dX1_copyFrom_65 ?_
  refine a_iconst C0 0 dX1_copyFrom_68 rfl ?_
  refine a_bipush C0 8 dX1_copyFrom_69 rfl ?_
  refine a_copy C0 8 u_m_X1_52 u_na_O_arraycopy u_st_O_arraycopy u_in_J10 (lt_b rfl) (lt_b rfl) rfl (fun _ => rfl) rfl rfl (by decide) rfl (le_b rfl) (le_b rfl) ⟨le_b rfl, le_b rfl⟩ dX1_copyFrom_71 ?_
  refine a_aload_n C0 1 dX1_copyFrom_74 rfl rfl ?_
  refine g_X1_27 C0 (lt_b rfl) rfl rfl dX1_copyFrom_75 ?_
  refine a_iconst C0 0 dX1_copyFrom_78 rfl ?_
  refine a_aload_n C0 0 dX1_copyFrom_79 rfl rfl ?_
  refine g_X1_27 C0 (lt_b rfl) rfl rfl dX1_copyFrom_80 ?_
  refine a_iconst C0 0 dX1_copyFrom_83 rfl ?_
  refine a_bipush C0 8 dX1_copyFrom_84 rfl ?_
  refine a_copy C0 8 u_m_X1_52 u_na_O_arraycopy u_st_O_arraycopy u_in_J10 (lt_b rfl) (lt_b rfl) rfl (fun _ => rfl) rfl rfl (by decide) rfl (le_b rfl) (le_b rfl) ⟨le_b rfl, le_b rfl⟩ dX1_copyFrom_86 ?_
  refine a_aload_n C0 1 dX1_copyFrom_89 rfl rfl ?_
  refine g_X1_30 C0 (lt_b rfl) rfl rfl dX1_copyFrom_90 ?_
  refine a_iconst C0 0 dX1_copyFrom_93 rfl ?_
  refine a_aload_n C0 0 dX1_copyFrom_94 rfl rfl ?_
  refine g_X1_30 C0 (lt_b rfl) rfl rfl dX1_copyFrom_95 ?_
  refine a_iconst C0 0 dX1_copyFrom_98 rfl ?_
  refine a_bipush C0 8 dX1_copyFrom_99 rfl ?_
  refine a_copy C0 8 u_m_X1_52 u_na_O_arraycopy u_st_O_arraycopy u_in_J10 (lt_b rfl) (lt_b rfl) rfl (fun _ => rfl) rfl rfl (by decide) rfl (le_b rfl) (le_b rfl) ⟨le_b rfl, le_b rfl⟩ dX1_copyFrom_101 ?_
  refine a_aload_n C0 0 dX1_copyFrom_104 rfl rfl ?_
  refine a_aload_n C0 1 dX1_copyFrom_105 rfl rfl ?_
  refine g_X1_43 C0 (lt_b rfl) rfl rfl dX1_copyFrom_106 ?_
  refine p_X1_43 C0 (lt_b rfl) rfl (lt_b rfl) rfl rfl dX1_copyFrom_109 ?_
  refine a_aload_n C0 0 dX1_copyFrom_112 rfl rfl ?_
  refine a_aload_n C0 1 dX1_copyFrom_113 rfl rfl ?_
  refine g_X1_46 C0 (lt_b rfl) rfl rfl dX1_copyFrom_114 ?_
  refine p_X1_46 C0 (lt_b rfl) rfl (lt_b rfl) rfl rfl dX1_copyFrom_117 ?_
  refine a_aload_n C0 0 dX1_copyFrom_120 rfl rfl ?_
  refine a_aload_n C0 1 dX1_copyFrom_121 rfl rfl ?_
  refine g_X1_49 C0 (lt_b rfl) rfl rfl dX1_copyFrom_122 ?_
  refine p_X1_49 C0 (lt_b rfl) rfl (lt_b rfl) rfl rfl dX1_copyFrom_125 ?_
  refine a_aload_n C0 0 dX1_copyFrom_128 rfl rfl ?_
  refine a_aload_n C0 1 dX1_copyFrom_129 rfl rfl ?_
  refine g_X1_33 C0 (lt_b rfl) rfl rfl dX1_copyFrom_130 ?_
  refine p_X1_33 C0 (lt_b rfl) rfl (lt_b rfl) rfl rfl dX1_copyFrom_133 ?_
  refine AW.ext (M2 := cpP M) (fun i hi => ?_) ?_
  · match i, hi with
    | 0, _ => exact Or.inl rfl
    | 1, _ => exact eqc_i fun k hk => cpy_eq hk
    | 2, _ => exact eqc_i fun k hk => cpy_eq hk
    | 3, _ => exact eqc_i fun k hk => cpy_eq hk
    | 4, _ => exact eqc_i fun k hk => cpy_eq hk
    | 5, _ => exact eqc_i fun k hk => cpy_eq hk
    | 6, _ => exact eqc_i fun k hk => cpy_eq hk
    | 7, _ => exact eqc_i fun k hk => cpy_eq hk
    | 8, _ => exact Or.inl rfl
    | 9, _ => exact Or.inl rfl
    | 10, _ => exact Or.inl rfl
    | 11, _ => exact Or.inl rfl
    | 12, _ => exact Or.inl rfl
    | 13, _ => exact Or.inl rfl
    | 14, _ => exact Or.inl rfl
    | 15, _ => exact Or.inl rfl
    | j + 16, hj => exact absurd hj (by omega)
  refine a_vret C0 hr dX1_copyFrom_136 ?_
  exact rv_ rfl
