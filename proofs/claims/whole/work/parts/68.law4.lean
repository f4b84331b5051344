/-! THE CLAIM OUT OF ONE WALK OF THE LAW'S BODY. Your part is whole_start (and what it stands on); all else here is the same for every law, but numbers. -/
def R_law : String := "WarmGossipLaw"
def lw_P (b : Addr) (xs : List Int32) (args : Array Value) (s : State) : Prop := args = #[.ref b] ∧ s.IntsAt b xs ∧ xs.length ≤ 2560 ∧ (Jvm.Cond.and given_1 narrow_1).before args s = true
def lw_Q (_ : Array Value) (s : State) (o : Outcome) (t : State) : Prop := o = .returned (some (.int 1)) ∧ Framed s o t [] 600000 7302250
def lw_Z (below : List Frame) (a : Array Value) (s : State) : State → Prop := fun t => ∃ o, t.status = .running ∧ Ended t below o ∧ lw_Q a s o t
/-- the law's own end, with 1 on the stack, nothing written that was there before, its room as the claim has it -/
theorem lw_ret {p : Program} {l : Launch} {e : Env} {s : State} {m : MethodId} {below : List Frame} {meth : Method} {c : Code} {b : Nat} (hx : p.tables.exec = Jvm.exec) (hb : c.code = code) (hr : meth.sig.returnType = ret) (hlocks : meth.locks = false) {pc : Nat} {H : Heap} {ls : Array Slot} (hdg : decode code pc = .ok (.ireturn, 1)) : W p l e room_1 s m #[Value.ref b] below meth c H [] 600000 7302250 (lw_Z below #[Value.ref b] s) (F0 m pc ls [.int 1]) := by
  intro T hT X
  obtain ⟨fs, hret, hrun, hended, hW, hframe⟩ := X.leave (v := some (.int 1)) (hlocks := hlocks) (fun h => by rw [hr] at h; cases h)
  have hmeth' : T.vm.method? m = some meth := X.method'
  refine ⟨T.setFrames fs, ?_, .returned (some (.int 1)), hrun, hended, rfl, ⟨_, rfl⟩, hW, hframe⟩
  jvm_step X.here [X.here.top, hx, hb, hdg, hmeth', hr, ret, narrow_b1]
  (try refine ⟨rfl, ?_⟩); (try refine ⟨rfl, ?_⟩)
  first | (intro acts; rw [hret _ acts rfl rfl rfl]) | rw [hret _ _ rfl rfl rfl]
  exact Steps.refl _
/-- what holds at the law's entry: the machine, the code, the tables' words (any of lw_tbl by 'hts w (by decide +kernel)'), the script of L ints xs at the cell b, what the Statement gives of the start (any of its parts by flat_of_before) -/
def lw_At (p : Program) (s : State) (m : MethodId) (meth : Method) (c : Code) (b L : Nat) (xs : Nat → Int32) : Prop :=
  p.tables.exec = Jvm.exec ∧ c.code = code ∧ meth.sig.returnType = ret ∧ c.maxLocals = 4 ∧ s.vm.findClass R_law = some m.cls ∧ (∀ w ∈ lw_tbl, w.before #[Value.ref b] s = true) ∧ va_X b L xs s s.heap ∧ b < s.heap.size ∧ meth.locks = false ∧ (Jvm.Cond.and given_1 narrow_1).before #[Value.ref b] s = true

theorem lt5_ {L i : Nat} (hL : L ≤ 2560) (hi : i ≤ 2560) : nI L - 5 < nI i ↔ L < i + 5 := by
  rw [Int32.lt_iff_toInt_lt, show (5 : Int32) = nI 5 from rfl, pk_sub_toInt (by omega) (by decide), nI_toInt (by omega)]
  omega

section LL
variable {p : Program} {l : Launch} {e : Env} {s : State} {m : MethodId} {below : List Frame} {meth : Method} {c : Code} {G : GE} {A : Nat → Prop} {ad : Nat → Nat} {Q : State → Prop} {b L : Nat} {xs : Nat → Int32}
set_option maxRecDepth 100000 in
set_option maxHeartbeats 8000000 in
theorem law_loop (C9 : lw_At p s m meth c b L xs) (C0 : Cx p s m #[Value.ref b] meth c G A 68 ad cL_law RL 4) (hA : ∀ q, A q → s.heap.size ≤ q) (hX : va_X b L xs s s.heap) (hbl : b < s.heap.size) (hbA : ¬ A b) (hL : L ≤ 2560) : ∀ (n i mb : Nat) (xi : Int32) (O : RW) (N K T B R S H Z : WM) (OM SM : RW) (XM : WM), 2560 - i < n → xi = nI i → i ≤ 2560 → mb * 5 ≤ 61 * i → INV mb O N K B R S H Z OM SM XM → AW p l e room_1 s m #[Value.ref b] below meth c G A 68 ad (shL G ad) 4 600000 7302250 (lw_Z below #[Value.ref b] s) 18 [(3, .int xi), (0, .ref b), (1, .ref (ad 0)), (2, .ref (ad 54))] [] (mkL (mkX O N K T B R S H Z) (mkM OM SM XM)) := by
  obtain ⟨hxx, hbb, hr, -, -, -, -, -, hlocks, -⟩ := id C9
  intro n
  induction n with
  | zero =>
    intro i mb xi O N K T B R S H Z OM SM XM hn
    exact absurd hn (Nat.not_lt_zero _)
  | succ n ih =>
    intro i mb xi O N K T B R S H Z OM SM XM hn hxi hi2 hmb inv
    have e18 : i + 5 ≤ L → (∀ (O : RW) (N K T B R S H Z : WM) (OM SM : RW) (XM : WM), INV (mb + 61) O N K B R S H Z OM SM XM → AW p l e room_1 s m #[Value.ref b] below meth c G A 68 ad (shL G ad) 4 600000 7302250 (lw_Z below #[Value.ref b] s) 1742 [(3, .int xi), (0, .ref b), (1, .ref (ad 0)), (2, .ref (ad 54))] [] (mkL (mkX O N K T B R S H Z) (mkM OM SM XM))) := by
      intro hi5 O N K T B R S H Z OM SM XM inv2
      refine a_iinc (ls2 := [(3, _), (0, _), (1, _), (2, _)]) C0 0 5 dL_law_1742 rfl rfl (lt_b rfl) rfl ?_
      refine a_goto C0 18 dL_law_1745 rfl ?_
      exact ih (i + 5) (mb + 61) _ _ _ _ _ _ _ _ _ _ _ _ _ (by omega) (by rw [hxi, show (5 : Int32) = nI 5 from rfl, nI_add]) (by omega) (by omega) inv2
    refine a_iload_n C0 0 dL_law_18 rfl rfl ?_
    refine a_aload_n C0 1 dL_law_19 rfl rfl ?_
    refine a_slen C0 hX hbl hbA dL_law_20 ?_
    refine a_iconst C0 5 dL_law_21 rfl ?_
    refine a_isub C0 dL_law_22 ?_
    refine a_icmp_gt C0 1748 dL_law_23 rfl (fun h23 => ?_) (fun h23 => ?_)
    · refine a_iconst C0 1 dL_law_1748 rfl ?_
      intro H locs la hP hS hl
      refine va_forget (fun q hq => hA _ (hS.2.2 q hq)) ?_
      exact lw_ret hxx hbb hr hlocks dL_law_1749
    · have hi5 : i + 5 ≤ L := Nat.not_lt.mp fun q => h23 (by
        show nI L - 5 < xi
        rw [hxi]
        exact (lt5_ hL hi2).mpr q)
      have hx0 : IX xi (i + 0) L := IX.eqn hxi (by omega) (by omega)
      refine a_aload_n C0 1 dL_law_26 rfl rfl ?_
      refine a_iload_n C0 0 dL_law_27 rfl rfl ?_
      refine a_sld C0 hX hbl hbA (i + 0) hx0.1 hx0.2 dL_law_28 ?_
      refine a_bipush C0 63 dL_law_29 rfl ?_
      refine a_iand C0 dL_law_31 ?_
      refine a_case 0 (fun h32 => ?_) (fun h32n_0 => ?_)
      · refine a_tsIn C0 232 dL_law_32 (by decide) (by decide) rfl rfl ?_
        exact lc_0 C0 hX hbl hbA hxi hi5 hL (by omega) inv (e18 hi5)
      refine a_case 1 (fun h32 => ?_) (fun h32n_1 => ?_)
      · refine a_tsIn C0 295 dL_law_32 (by decide) (by decide) rfl rfl ?_
        exact lc_1 C0 hX hbl hbA hxi hi5 hL (by omega) inv (e18 hi5)
      refine a_case 2 (fun h32 => ?_) (fun h32n_2 => ?_)
      · refine a_tsIn C0 308 dL_law_32 (by decide) (by decide) rfl rfl ?_
        exact lc_2 C0 hX hbl hbA hxi hi5 hL (by omega) inv (e18 hi5)
      refine a_case 3 (fun h32 => ?_) (fun h32n_3 => ?_)
      · refine a_tsIn C0 341 dL_law_32 (by decide) (by decide) rfl rfl ?_
        exact lc_3 C0 hX hbl hbA hxi hi5 hL (by omega) inv (e18 hi5)
      refine a_case 4 (fun h32 => ?_) (fun h32n_4 => ?_)
      · refine a_tsIn C0 364 dL_law_32 (by decide) (by decide) rfl rfl ?_
        exact lc_4 C0 hX hbl hbA hxi hi5 hL (by omega) inv (e18 hi5)
      refine a_case 5 (fun h32 => ?_) (fun h32n_5 => ?_)
      · refine a_tsIn C0 407 dL_law_32 (by decide) (by decide) rfl rfl ?_
        exact lc_5 C0 hX hbl hbA hxi hi5 hL (by omega) inv (e18 hi5)
      refine a_case 6 (fun h32 => ?_) (fun h32n_6 => ?_)
      · refine a_tsIn C0 440 dL_law_32 (by decide) (by decide) rfl rfl ?_
        exact lc_6 C0 hX hbl hbA hxi hi5 hL (by omega) inv (e18 hi5)
      refine a_case 7 (fun h32 => ?_) (fun h32n_7 => ?_)
      · refine a_tsIn C0 473 dL_law_32 (by decide) (by decide) rfl rfl ?_
        exact lc_7 C0 hX hbl hbA hxi hi5 hL (by omega) inv (e18 hi5)
      refine a_case 8 (fun h32 => ?_) (fun h32n_8 => ?_)
      · refine a_tsIn C0 506 dL_law_32 (by decide) (by decide) rfl rfl ?_
        exact lc_8 C0 hX hbl hbA hxi hi5 hL (by omega) inv (e18 hi5)
      refine a_case 9 (fun h32 => ?_) (fun h32n_9 => ?_)
      · refine a_tsIn C0 539 dL_law_32 (by decide) (by decide) rfl rfl ?_
        exact lc_9 C0 hX hbl hbA hxi hi5 hL (by omega) inv (e18 hi5)
      refine a_case 10 (fun h32 => ?_) (fun h32n_10 => ?_)
      · refine a_tsIn C0 572 dL_law_32 (by decide) (by decide) rfl rfl ?_
        exact lc_10 C0 hX hbl hbA hxi hi5 hL (by omega) inv (e18 hi5)
      refine a_case 11 (fun h32 => ?_) (fun h32n_11 => ?_)
      · refine a_tsIn C0 615 dL_law_32 (by decide) (by decide) rfl rfl ?_
        exact lc_11 C0 hX hbl hbA hxi hi5 hL (by omega) inv (e18 hi5)
      refine a_case 12 (fun h32 => ?_) (fun h32n_12 => ?_)
      · refine a_tsIn C0 648 dL_law_32 (by decide) (by decide) rfl rfl ?_
        exact lc_12 C0 hX hbl hbA hxi hi5 hL (by omega) inv (e18 hi5)
      refine a_case 13 (fun h32 => ?_) (fun h32n_13 => ?_)
      · refine a_tsIn C0 671 dL_law_32 (by decide) (by decide) rfl rfl ?_
        exact lc_13 C0 hX hbl hbA hxi hi5 hL (by omega) inv (e18 hi5)
      refine a_case 14 (fun h32 => ?_) (fun h32n_14 => ?_)
      · refine a_tsIn C0 694 dL_law_32 (by decide) (by decide) rfl rfl ?_
        exact lc_14 C0 hX hbl hbA hxi hi5 hL (by omega) inv (e18 hi5)
      refine a_case 15 (fun h32 => ?_) (fun h32n_15 => ?_)
      · refine a_tsIn C0 707 dL_law_32 (by decide) (by decide) rfl rfl ?_
        exact lc_15 C0 hX hbl hbA hxi hi5 hL (by omega) inv (e18 hi5)
      refine a_case 16 (fun h32 => ?_) (fun h32n_16 => ?_)
      · refine a_tsIn C0 730 dL_law_32 (by decide) (by decide) rfl rfl ?_
        exact lc_16 C0 hX hbl hbA hxi hi5 hL (by omega) inv (e18 hi5)
      refine a_case 17 (fun h32 => ?_) (fun h32n_17 => ?_)
      · refine a_tsIn C0 753 dL_law_32 (by decide) (by decide) rfl rfl ?_
        exact lc_17 C0 hX hbl hbA hxi hi5 hL (by omega) inv (e18 hi5)
      refine a_case 18 (fun h32 => ?_) (fun h32n_18 => ?_)
      · refine a_tsIn C0 786 dL_law_32 (by decide) (by decide) rfl rfl ?_
        exact lc_18 C0 hX hbl hbA hxi hi5 hL (by omega) inv (e18 hi5)
      refine a_case 19 (fun h32 => ?_) (fun h32n_19 => ?_)
      · refine a_tsIn C0 819 dL_law_32 (by decide) (by decide) rfl rfl ?_
        exact lc_19 C0 hX hbl hbA hxi hi5 hL (by omega) inv (e18 hi5)
      refine a_case 20 (fun h32 => ?_) (fun h32n_20 => ?_)
      · refine a_tsIn C0 842 dL_law_32 (by decide) (by decide) rfl rfl ?_
        exact lc_20 C0 hX hbl hbA hxi hi5 hL (by omega) inv (e18 hi5)
      refine a_case 21 (fun h32 => ?_) (fun h32n_21 => ?_)
      · refine a_tsIn C0 865 dL_law_32 (by decide) (by decide) rfl rfl ?_
        exact lc_21 C0 hX hbl hbA hxi hi5 hL (by omega) inv (e18 hi5)
      refine a_case 22 (fun h32 => ?_) (fun h32n_22 => ?_)
      · refine a_tsIn C0 888 dL_law_32 (by decide) (by decide) rfl rfl ?_
        exact lc_22 C0 hX hbl hbA hxi hi5 hL (by omega) inv (e18 hi5)
      refine a_case 23 (fun h32 => ?_) (fun h32n_23 => ?_)
      · refine a_tsIn C0 921 dL_law_32 (by decide) (by decide) rfl rfl ?_
        exact lc_23 C0 hX hbl hbA hxi hi5 hL (by omega) inv (e18 hi5)
      refine a_case 24 (fun h32 => ?_) (fun h32n_24 => ?_)
      · refine a_tsIn C0 964 dL_law_32 (by decide) (by decide) rfl rfl ?_
        exact lc_24 C0 hX hbl hbA hxi hi5 hL (by omega) inv (e18 hi5)
      refine a_case 25 (fun h32 => ?_) (fun h32n_25 => ?_)
      · refine a_tsIn C0 997 dL_law_32 (by decide) (by decide) rfl rfl ?_
        exact lc_25 C0 hX hbl hbA hxi hi5 hL (by omega) inv (e18 hi5)
      refine a_case 26 (fun h32 => ?_) (fun h32n_26 => ?_)
      · refine a_tsIn C0 1030 dL_law_32 (by decide) (by decide) rfl rfl ?_
        exact lc_26 C0 hX hbl hbA hxi hi5 hL (by omega) inv (e18 hi5)
      refine a_case 27 (fun h32 => ?_) (fun h32n_27 => ?_)
      · refine a_tsIn C0 1073 dL_law_32 (by decide) (by decide) rfl rfl ?_
        exact lc_27 C0 hX hbl hbA hxi hi5 hL (by omega) inv (e18 hi5)
      refine a_case 28 (fun h32 => ?_) (fun h32n_28 => ?_)
      · refine a_tsIn C0 1116 dL_law_32 (by decide) (by decide) rfl rfl ?_
        exact lc_28 C0 hX hbl hbA hxi hi5 hL (by omega) inv (e18 hi5)
      refine a_case 29 (fun h32 => ?_) (fun h32n_29 => ?_)
      · refine a_tsIn C0 1159 dL_law_32 (by decide) (by decide) rfl rfl ?_
        exact lc_29 C0 hX hbl hbA hxi hi5 hL (by omega) inv (e18 hi5)
      refine a_case 30 (fun h32 => ?_) (fun h32n_30 => ?_)
      · refine a_tsIn C0 1203 dL_law_32 (by decide) (by decide) rfl rfl ?_
        exact lc_30 C0 hX hbl hbA hxi hi5 hL (by omega) inv (e18 hi5)
      refine a_case 31 (fun h32 => ?_) (fun h32n_31 => ?_)
      · refine a_tsIn C0 1237 dL_law_32 (by decide) (by decide) rfl rfl ?_
        exact lc_31 C0 hX hbl hbA hxi hi5 hL (by omega) inv (e18 hi5)
      refine a_case 32 (fun h32 => ?_) (fun h32n_32 => ?_)
      · refine a_tsIn C0 1270 dL_law_32 (by decide) (by decide) rfl rfl ?_
        exact lc_32 C0 hX hbl hbA hxi hi5 hL (by omega) inv (e18 hi5)
      refine a_case 33 (fun h32 => ?_) (fun h32n_33 => ?_)
      · refine a_tsIn C0 1303 dL_law_32 (by decide) (by decide) rfl rfl ?_
        exact lc_33 C0 hX hbl hbA hxi hi5 hL (by omega) inv (e18 hi5)
      refine a_case 34 (fun h32 => ?_) (fun h32n_34 => ?_)
      · refine a_tsIn C0 1346 dL_law_32 (by decide) (by decide) rfl rfl ?_
        exact lc_34 C0 hX hbl hbA hxi hi5 hL (by omega) inv (e18 hi5)
      refine a_case 35 (fun h32 => ?_) (fun h32n_35 => ?_)
      · refine a_tsIn C0 1369 dL_law_32 (by decide) (by decide) rfl rfl ?_
        exact lc_35 C0 hX hbl hbA hxi hi5 hL (by omega) inv (e18 hi5)
      refine a_case 36 (fun h32 => ?_) (fun h32n_36 => ?_)
      · refine a_tsIn C0 1422 dL_law_32 (by decide) (by decide) rfl rfl ?_
        exact lc_36 C0 hX hbl hbA hxi hi5 hL (by omega) inv (e18 hi5)
      refine a_case 37 (fun h32 => ?_) (fun h32n_37 => ?_)
      · refine a_tsIn C0 1465 dL_law_32 (by decide) (by decide) rfl rfl ?_
        exact lc_37 C0 hX hbl hbA hxi hi5 hL (by omega) inv (e18 hi5)
      refine a_case 38 (fun h32 => ?_) (fun h32n_38 => ?_)
      · refine a_tsIn C0 1508 dL_law_32 (by decide) (by decide) rfl rfl ?_
        exact lc_38 C0 hX hbl hbA hxi hi5 hL (by omega) inv (e18 hi5)
      refine a_case 39 (fun h32 => ?_) (fun h32n_39 => ?_)
      · refine a_tsIn C0 1551 dL_law_32 (by decide) (by decide) rfl rfl ?_
        exact lc_39 C0 hX hbl hbA hxi hi5 hL (by omega) inv (e18 hi5)
      refine a_case 40 (fun h32 => ?_) (fun h32n_40 => ?_)
      · refine a_tsIn C0 1594 dL_law_32 (by decide) (by decide) rfl rfl ?_
        exact lc_40 C0 hX hbl hbA hxi hi5 hL (by omega) inv (e18 hi5)
      refine a_case 41 (fun h32 => ?_) (fun h32n_41 => ?_)
      · refine a_tsIn C0 1627 dL_law_32 (by decide) (by decide) rfl rfl ?_
        exact lc_41 C0 hX hbl hbA hxi hi5 hL (by omega) inv (e18 hi5)
      refine a_case 42 (fun h32 => ?_) (fun h32n_42 => ?_)
      · refine a_tsIn C0 1670 dL_law_32 (by decide) (by decide) rfl rfl ?_
        exact lc_42 C0 hX hbl hbA hxi hi5 hL (by omega) inv (e18 hi5)
      refine a_case 43 (fun h32 => ?_) (fun h32n_43 => ?_)
      · refine a_tsIn C0 1693 dL_law_32 (by decide) (by decide) rfl rfl ?_
        exact lc_43 C0 hX hbl hbA hxi hi5 hL (by omega) inv (e18 hi5)
      refine a_case 44 (fun h32 => ?_) (fun h32n_44 => ?_)
      · refine a_tsIn C0 1716 dL_law_32 (by decide) (by decide) rfl rfl ?_
        exact lc_44 C0 hX hbl hbA hxi hi5 hL (by omega) inv (e18 hi5)
      refine a_case 45 (fun h32 => ?_) (fun h32n_45 => ?_)
      · refine a_tsIn C0 1729 dL_law_32 (by decide) (by decide) rfl rfl ?_
        exact lc_45 C0 hX hbl hbA hxi hi5 hL (by omega) inv (e18 hi5)
      refine a_tsOut C0 1742 dL_law_32 (by have t0 := lv_neT (a := 0) h32n_0 rfl; have t1 := lv_neT (a := 1) h32n_1 rfl; have t2 := lv_neT (a := 2) h32n_2 rfl; have t3 := lv_neT (a := 3) h32n_3 rfl; have t4 := lv_neT (a := 4) h32n_4 rfl; have t5 := lv_neT (a := 5) h32n_5 rfl; have t6 := lv_neT (a := 6) h32n_6 rfl; have t7 := lv_neT (a := 7) h32n_7 rfl; have t8 := lv_neT (a := 8) h32n_8 rfl; have t9 := lv_neT (a := 9) h32n_9 rfl; have t10 := lv_neT (a := 10) h32n_10 rfl; have t11 := lv_neT (a := 11) h32n_11 rfl; have t12 := lv_neT (a := 12) h32n_12 rfl; have t13 := lv_neT (a := 13) h32n_13 rfl; have t14 := lv_neT (a := 14) h32n_14 rfl; have t15 := lv_neT (a := 15) h32n_15 rfl; have t16 := lv_neT (a := 16) h32n_16 rfl; have t17 := lv_neT (a := 17) h32n_17 rfl; have t18 := lv_neT (a := 18) h32n_18 rfl; have t19 := lv_neT (a := 19) h32n_19 rfl; have t20 := lv_neT (a := 20) h32n_20 rfl; have t21 := lv_neT (a := 21) h32n_21 rfl; have t22 := lv_neT (a := 22) h32n_22 rfl; have t23 := lv_neT (a := 23) h32n_23 rfl; have t24 := lv_neT (a := 24) h32n_24 rfl; have t25 := lv_neT (a := 25) h32n_25 rfl; have t26 := lv_neT (a := 26) h32n_26 rfl; have t27 := lv_neT (a := 27) h32n_27 rfl; have t28 := lv_neT (a := 28) h32n_28 rfl; have t29 := lv_neT (a := 29) h32n_29 rfl; have t30 := lv_neT (a := 30) h32n_30 rfl; have t31 := lv_neT (a := 31) h32n_31 rfl; have t32 := lv_neT (a := 32) h32n_32 rfl; have t33 := lv_neT (a := 33) h32n_33 rfl; have t34 := lv_neT (a := 34) h32n_34 rfl; have t35 := lv_neT (a := 35) h32n_35 rfl; have t36 := lv_neT (a := 36) h32n_36 rfl; have t37 := lv_neT (a := 37) h32n_37 rfl; have t38 := lv_neT (a := 38) h32n_38 rfl; have t39 := lv_neT (a := 39) h32n_39 rfl; have t40 := lv_neT (a := 40) h32n_40 rfl; have t41 := lv_neT (a := 41) h32n_41 rfl; have t42 := lv_neT (a := 42) h32n_42 rfl; have t43 := lv_neT (a := 43) h32n_43 rfl; have t44 := lv_neT (a := 44) h32n_44 rfl; have t45 := lv_neT (a := 45) h32n_45 rfl; omega) rfl ?_
      exact e18 hi5 _ _ _ _ _ _ _ _ _ _ _ _ inv.up
end LL
