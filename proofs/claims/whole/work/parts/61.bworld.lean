
/-! ===== constructors: a world that grows, as a list of cells ===== -/
theorem u_ac_I : Cond.arrayClass .int ∈ wg := wg_at 151 (by decide +kernel) (by decide +kernel)
theorem u_ac_B : Cond.arrayClass .byte ∈ wg := wg_at 175 (by decide +kernel) (by decide +kernel)
/-- what only the WarmGossip's constructor asks of the tables -/
def ZW (G : GE) (U : State) : Prop := AG U (G.2.1 2) (G.2.1 0) ∧ va_AO "WarmGossip$Sheet" U ∧ va_AO "WarmGossip$Shelf" U ∧ va_Nw (.methodLinkNest RX5 24 yX4_init RX5) U ∧ va_Nw (.methodLinkNest RX5 40 yX2_init RX5) U ∧ va_Nw (.methodLinkNest RX5 47 yX3_init RX5) U ∧ va_Nw (.methodLinkNest RX5 50 yX0_init RX5) U
theorem ZW.warm {G : GE} {s U : State} (hW : s.WarmedH U.vm) (h : ZW G s) : ZW G U := ⟨h.1.moved hW.alike, h.2.1.moved hW.alike, h.2.2.1.moved hW.alike, h.2.2.2.1.warmM hW, h.2.2.2.2.1.warmM hW, h.2.2.2.2.2.1.warmM hW, h.2.2.2.2.2.2.warmM hW⟩
theorem ZW.same {G : GE} {s U : State} (hv : U.vm = s.vm) (h : ZW G s) : ZW G U := ⟨h.1.moved (by rw [hv]; exact Vm.Alike.refl _), h.2.1.moved (by rw [hv]; exact Vm.Alike.refl _), h.2.2.1.moved (by rw [hv]; exact Vm.Alike.refl _), h.2.2.2.1.same rfl hv.symm, h.2.2.2.2.1.same rfl hv.symm, h.2.2.2.2.2.1.same rfl hv.symm, h.2.2.2.2.2.2.same rfl hv.symm⟩
def rmB (k mc ms : Nat) : Room := { frames := k, cells := mc, slots := ms, locals := 64 * k }
def BPre (G : GE) (h0 ci : Nat) (fs : List Value) (sz : Nat) : State → Prop := fun U => U.heap.size = sz ∧ va_P G.1 vwCl [(h0, .inr (ci, fs))] U.heap ∧ va_K G.1 vwCl (tysG G) U ∧ va_D (fun _ => True) [(h0, .inr (ci, fs))] ∧ NW G U ∧ SF G (va_A [(h0, .inr (ci, fs))] sz) U U.heap ∧ ZW G U
def BQ (G : GE) (h0 N : Nat) (shf : (Nat → Nat) → SH) (post : WM → Prop) (A : Nat → Prop) : Array Value → State → Outcome → State → Prop := va_Qv (S := (Nat → Nat) × WM) (fun u => u.1 0 = h0 ∧ post u.2) (fun u t => va_P G.1 vwCl (wC N u.1 (shf u.1) u.2) t.heap ∧ va_D A (wC N u.1 (shf u.1) u.2)) A
/-- a constructor's contract: a fresh object becomes a world of N cells -/
def BTC (l : Launch) (G : GE) (y : MethodName) (cc : ByteArray) (maxL ci : Nat) (fs : List Value) (N : Nat) (shf : (Nat → Nat) → SH) (post : WM → Prop) (k mc ms : Nat) : Prop :=
  ∀ h0 sz : Nat, Met l y (wsm y cc maxL none) (rmB k mc ms) (va_Pc [.ref h0] (BPre G h0 ci fs sz)) (BQ G h0 N shf post (va_A [(h0, .inr (ci, fs))] sz)) mc ms (va_A [(h0, .inr (ci, fs))] sz)
def Bx (p : Program) (s : State) (m : MethodId) (args : Array Value) (meth : Method) (c : Code) (G : GE) (A : Nat → Prop) (cc : ByteArray) (own : String) (nL : Nat) : Prop :=
  p.tables.exec = Jvm.exec ∧ c.code = cc ∧ c.maxLocals = nL ∧ s.vm.findClass own = some m.cls ∧ (∀ w ∈ wg, w.before args s = true) ∧ meth.locks = false ∧ va_K G.1 vwCl (tysG G) s ∧ (∀ q : Nat, s.heap.size ≤ q → A q) ∧ NW G s ∧ SF G A s s.heap ∧ ZW G s
def BW (p : Program) (l : Launch) (e : Env) (R : Room) (s : State) (m : MethodId) (args : Array Value) (below : List Frame) (meth : Method) (c : Code) (G : GE) (A : Nat → Prop) (nL cs sl : Nat) (Q : State → Prop) (pc : Nat) (ls : LV) (st : List Value) (ws : va_W) : Prop :=
  ∀ (H : Heap) (locs : List Loc) (la : Array Slot), va_P G.1 vwCl ws H → va_D A ws → va_S A s.heap H locs → lv_has la nL ls → W p l e R s m args below meth c H locs cs sl Q (F0 m pc la st)
theorem ra_eq {U : State} {a b : ClassId} {ty : FieldType} (h : va_RA U a ty) (k : va_RA U b ty) : a = b := by
  cases ty with
  | object C =>
    obtain ⟨_, _, _, _, _, h⟩ := h
    obtain ⟨_, _, _, _, _, k⟩ := k
    exact Option.some.inj (h.symm.trans k)
  | _ => exact Option.some.inj (Eq.trans (Eq.symm h) k)
section BWs
variable {p : Program} {l : Launch} {e : Env} {R : Room} {s : State} {m : MethodId} {args : Array Value} {below : List Frame} {meth : Method} {c : Code} {G : GE} {A : Nat → Prop} {nL cs sl : Nat} {Q : State → Prop} {cc : ByteArray} {own : String} {pc : Nat} {ls : LV} {st : List Value} {ws : va_W}
theorem Bx.kk (B0 : Bx p s m args meth c G A cc own nL) : va_K G.1 vwCl (tysG G) s := B0.2.2.2.2.2.2.1
theorem Bx.ww (B0 : Bx p s m args meth c G A cc own nL) : ∀ w ∈ wg, w.before args s = true := B0.2.2.2.2.1
theorem Bx.oo (B0 : Bx p s m args meth c G A cc own nL) : s.vm.findClass own = some m.cls := B0.2.2.2.1
theorem Bx.aa (B0 : Bx p s m args meth c G A cc own nL) : ∀ q : Nat, s.heap.size ≤ q → A q := B0.2.2.2.2.2.2.2.1
theorem Bx.nw (B0 : Bx p s m args meth c G A cc own nL) : NW G s := B0.2.2.2.2.2.2.2.2.1
theorem Bx.sf (B0 : Bx p s m args meth c G A cc own nL) : SF G A s s.heap := B0.2.2.2.2.2.2.2.2.2.1
theorem Bx.zw (B0 : Bx p s m args meth c G A cc own nL) : ZW G s := B0.2.2.2.2.2.2.2.2.2.2
theorem BW.eq {ws2 : va_W} (h : ws2 = ws) (k : BW p l e R s m args below meth c G A nL cs sl Q pc ls st ws) : BW p l e R s m args below meth c G A nL cs sl Q pc ls st ws2 := h ▸ k
theorem BW.lo {ls2 : LV} (h : ls = ls2) (k : BW p l e R s m args below meth c G A nL cs sl Q pc ls2 st ws) : BW p l e R s m args below meth c G A nL cs sl Q pc ls st ws := h ▸ k
theorem BW.wide {cs2 sl2 : Nat} (h1 : cs ≤ cs2) (h2 : sl ≤ sl2) (k : BW p l e R s m args below meth c G A nL cs2 sl2 Q pc ls st ws) : BW p l e R s m args below meth c G A nL cs sl Q pc ls st ws := fun H locs la hP hD hS hl => W.widen h1 h2 (k H locs la hP hD hS hl)
/-- the world is whole: on with the judgement of part 07 -/
theorem BW.aw (B0 : Bx p s m args meth c G A cc own nL) {N : Nat} {ad : Nat → Nat} {sh : SH} {M : WM} (he : ws = wC N ad sh M) (k : Cx p s m args meth c G A N ad cc own nL → AW p l e R s m args below meth c G A N ad sh nL cs sl Q pc ls st M) : BW p l e R s m args below meth c G A nL cs sl Q pc ls st ws := by
  intro H locs la hP hD hS hl
  subst he
  exact k ⟨B0.1, B0.2.1, B0.2.2.1, B0.oo, B0.ww, B0.2.2.2.2.2.1, B0.kk, fun i j hi hj q => hD.1 i j _ _ (wC_at hi) (wC_at hj) q, fun i hi => hD.2 i _ (wC_at hi), B0.aa, B0.nw, B0.sf⟩ H locs la hP hS hl
theorem b_iconst (B0 : Bx p s m args meth c G A cc own nL) {n : Int} (v : Int32) (d : decode cc pc = .ok (.iconst n, 1)) (hv : Int32.ofInt n = v) (k : BW p l e R s m args below meth c G A nL cs sl Q (pc + 1) ls (.int v :: st) ws) : BW p l e R s m args below meth c G A nL cs sl Q pc ls st ws := fun H locs la hP hD hS hl => lv_iconst B0.1 B0.2.1 d hv (k H locs la hP hD hS hl)
theorem b_bipush (B0 : Bx p s m args meth c G A cc own nL) {n : Int} (v : Int32) (d : decode cc pc = .ok (.bipush n, 2)) (hv : (Int8.ofInt n).toInt32 = v) (k : BW p l e R s m args below meth c G A nL cs sl Q (pc + 2) ls (.int v :: st) ws) : BW p l e R s m args below meth c G A nL cs sl Q pc ls st ws := fun H locs la hP hD hS hl => lv_bipush B0.1 B0.2.1 d hv (k H locs la hP hD hS hl)
theorem b_sipush (B0 : Bx p s m args meth c G A cc own nL) {n : Int} (v : Int32) (d : decode cc pc = .ok (.sipush n, 3)) (hv : (Int16.ofInt n).toInt32 = v) (k : BW p l e R s m args below meth c G A nL cs sl Q (pc + 3) ls (.int v :: st) ws) : BW p l e R s m args below meth c G A nL cs sl Q pc ls st ws := fun H locs la hP hD hS hl => lv_sipush B0.1 B0.2.1 d hv (k H locs la hP hD hS hl)
theorem b_aload_n (B0 : Bx p s m args meth c G A cc own nL) {j : Fin 4} {i : Nat} {x : Nat} (q : Nat) (d : decode cc pc = .ok (.aload_n j, 1)) (hi : (j : Nat) = i) (hk : ls[q]? = some (i, .ref x)) (k : BW p l e R s m args below meth c G A nL cs sl Q (pc + 1) ls (.ref x :: st) ws) : BW p l e R s m args below meth c G A nL cs sl Q pc ls st ws := fun H locs la hP hD hS hl => lv_aload_n B0.1 B0.2.1 d hi (lv_at hl q hk) (k H locs la hP hD hS hl)
theorem b_iload_n (B0 : Bx p s m args meth c G A cc own nL) {j : Fin 4} {i : Nat} {x : Int32} (q : Nat) (d : decode cc pc = .ok (.iload_n j, 1)) (hi : (j : Nat) = i) (hk : ls[q]? = some (i, .int x)) (k : BW p l e R s m args below meth c G A nL cs sl Q (pc + 1) ls (.int x :: st) ws) : BW p l e R s m args below meth c G A nL cs sl Q pc ls st ws := fun H locs la hP hD hS hl => lv_iload_n B0.1 B0.2.1 d hi (lv_at hl q hk) (k H locs la hP hD hS hl)
theorem b_dup (B0 : Bx p s m args meth c G A cc own nL) {v : Value} (d : decode cc pc = .ok (.dup, 1)) (hv : v.category = 1) (k : BW p l e R s m args below meth c G A nL cs sl Q (pc + 1) ls (v :: v :: st) ws) : BW p l e R s m args below meth c G A nL cs sl Q pc ls (v :: st) ws := fun H locs la hP hD hS hl => lv_dup B0.1 B0.2.1 d hv (k H locs la hP hD hS hl)
theorem b_goto (B0 : Bx p s m args meth c G A cc own nL) {off : Int} (tgt : Nat) (d : decode cc pc = .ok (.goto off, 3)) (ht : (pc : Int) + off = (tgt : Int)) (k : BW p l e R s m args below meth c G A nL cs sl Q tgt ls st ws) : BW p l e R s m args below meth c G A nL cs sl Q pc ls st ws := fun H locs la hP hD hS hl => lv_goto B0.1 B0.2.1 d ht (k H locs la hP hD hS hl)
theorem b_icmp_ge (B0 : Bx p s m args meth c G A cc own nL) {x y : Int32} {off : Int} (tgt : Nat) (d : decode cc pc = .ok (.if_icmp .ge off, 3)) (ht : (pc : Int) + off = (tgt : Int)) (kt : y ≤ x → BW p l e R s m args below meth c G A nL cs sl Q tgt ls st ws) (kf : ¬ (y ≤ x) → BW p l e R s m args below meth c G A nL cs sl Q (pc + 3) ls st ws) : BW p l e R s m args below meth c G A nL cs sl Q pc ls (.int y :: .int x :: st) ws := fun H locs la hP hD hS hl => lv_icmp_ge B0.1 B0.2.1 d ht (fun h => kt h H locs la hP hD hS hl) (fun h => kf h H locs la hP hD hS hl)
theorem b_istore_n (B0 : Bx p s m args meth c G A cc own nL) {j : Fin 4} {i : Nat} {x : Int32} {ls2 : LV} (d : decode cc pc = .ok (.istore_n j, 1)) (hi : (j : Nat) = i) (hn : i < nL) (h2 : lput i (.int x) ls = ls2) (k : BW p l e R s m args below meth c G A nL cs sl Q (pc + 1) ls2 st ws) : BW p l e R s m args below meth c G A nL cs sl Q pc ls (.int x :: st) ws := fun H locs la hP hD hS hl => lv_istore_n B0.1 B0.2.1 d hi hl hn h2 (fun la2 hl2 => k H locs la2 hP hD hS hl2)
theorem b_astore_n (B0 : Bx p s m args meth c G A cc own nL) {j : Fin 4} {i : Nat} {x : Nat} {ls2 : LV} (d : decode cc pc = .ok (.astore_n j, 1)) (hi : (j : Nat) = i) (hn : i < nL) (h2 : lput i (.ref x) ls = ls2) (k : BW p l e R s m args below meth c G A nL cs sl Q (pc + 1) ls2 st ws) : BW p l e R s m args below meth c G A nL cs sl Q pc ls (.ref x :: st) ws := fun H locs la hP hD hS hl => lv_astore_n B0.1 B0.2.1 d hi hl hn h2 (fun la2 hl2 => k H locs la2 hP hD hS hl2)
theorem b_iinc (B0 : Bx p s m args meth c G A cc own nL) {i : Nat} {n : Int} {x : Int32} {ls2 : LV} (q : Nat) (v : Int32) (d : decode cc pc = .ok (.iinc i n, 3)) (hk : ls[q]? = some (i, .int x)) (hv : x + Int32.ofInt n = v) (hn : i < nL) (h2 : lput i (.int v) ls = ls2) (k : BW p l e R s m args below meth c G A nL cs sl Q (pc + 3) ls2 st ws) : BW p l e R s m args below meth c G A nL cs sl Q pc ls st ws := fun H locs la hP hD hS hl => lv_iinc B0.1 B0.2.1 d hl (k := q) hk hv hn h2 (fun la2 hl2 => k H locs la2 hP hD hS hl2)
theorem b_obj (B0 : Bx p s m args meth c G A cc own nL) {idx x : Nat} (hlink : Cond.methodLink own idx objectInit ∈ wg) (hR : (Nat.ble 1 R.frames && Nat.ble 20 R.locals) = true) (hW : (st.map fun v => v.category).sum ≤ 8) (d : decode cc pc = .ok (.invokespecial idx, 3)) (k : BW p l e R s m args below meth c G A nL cs sl Q (pc + 3) ls st ws) : BW p l e R s m args below meth c G A nL cs sl Q pc ls (.ref x :: st) ws := fun H locs la hP hD hS hl => by
  rw [Bool.and_eq_true] at hR
  have h1 := Nat.le_of_ble_eq_true hR.1
  have h2 := Nat.le_of_ble_eq_true hR.2
  refine W.objInit B0.1 B0.2.1 B0.oo (B0.ww _ hlink) (B0.ww _ u_im_O__init_) (B0.ww _ u_c_O__init_) rfl (by rw [B0.2.2.1]; exact hl.1) rfl d h1 ?_ (k H locs la hP hD hS hl)
  show 2 * 0 + (st.map fun v => v.category).sum + 12 ≤ R.locals
  omega
theorem b_newa (B0 : Bx p s m args meth c G A cc own nL) {atype : ArrayType} {ty : FieldType} (t0 : Nat) (harr : Cond.arrayClass (newarray.typeOf atype) ∈ wg) (hty : newarray.typeOf atype = ty) (ht : (tysG G)[t0]? = some (G.2.1 t0, ty)) {n : Int32} {N' : Nat} {a0 : vp_A} (ha : ∀ cA : ClassId, vp_cell cA a0 = arrV cA N' (fun _ => defaultValue ty)) (hn : ¬ n < 0) (hN : n.toNatClampNeg = N') (hb : N' * componentBytes ty ≤ 536870912) (hc : cs + 1 ≤ R.cells) (hs : sl + N' ≤ R.slots) (d : decode cc pc = .ok (.newarray atype, 2))
    (k : ∀ q : Nat, BW p l e R s m args below meth c G A nL (cs + 1) (sl + N') Q (pc + 2) ls (.ref q :: st) (ws ++ [(q, .inl (G.2.1 t0, a0))])) : BW p l e R s m args below meth c G A nL cs sl Q pc ls (.int n :: st) ws := by
  intro H locs la hP hD hS hl
  refine va_newa (D := G.1) (cl := vwCl) B0.1 B0.2.1 (B0.ww _ harr) hty B0.kk hP hD hS B0.aa ha hn hN hb hc hs d (fun q cA H1 hK1 hP1 hD1 hS1 => ?_)
  have e : cA = G.2.1 t0 := ra_eq (hK1.2 5 (cA, ty) rfl).2 (B0.kk.2 t0 _ ht).2
  subst e
  exact k q H1 locs la hP1 hD1 hS1 hl
theorem b_newq (B0 : Bx p s m args meth c G A cc own nL) {C : String} {index : Nat} (t0 : Nat) (hlink : Cond.classLink own index C ∈ wg) (hAO : va_AO C s) (ht : (tysG G)[t0]? = some (G.2.1 t0, .object C)) {n : Int32} {N' : Nat} (hn : ¬ n < 0) (hN : n.toNatClampNeg = N') (hb : N' * 4 ≤ 536870912) (hc : cs + 1 ≤ R.cells) (hs : sl + N' ≤ R.slots) (d : decode cc pc = .ok (.anewarray index, 3))
    (k : ∀ q : Nat, BW p l e R s m args below meth c G A nL (cs + 1) (sl + N') Q (pc + 3) ls (.ref q :: st) (ws ++ [(q, .inl (G.2.1 t0, N', .inr (.inr (.inr (.inr (fun _ => none))))))])) : BW p l e R s m args below meth c G A nL cs sl Q pc ls (.int n :: st) ws := by
  intro H locs la hP hD hS hl
  refine va_newq (D := G.1) (cl := vwCl) B0.1 B0.2.1 B0.oo (B0.ww _ hlink) hAO B0.kk hP hD hS B0.aa hn hN hb hc hs d (fun q cA H1 hK1 hP1 hD1 hS1 => ?_)
  have e : cA = G.2.1 t0 := ra_eq (hK1.2 5 (cA, .object C) rfl).2 (B0.kk.2 t0 _ ht).2
  subst e
  exact k q H1 locs la hP1 hD1 hS1 hl
theorem b_new (B0 : Bx p s m args meth c G A cc own nL) {C : String} {T : u_T} {N ci index : Nat} (hin : ∀ w ∈ u_ws C T N, w ∈ wg) (ty : Nat → FieldType) (hty : ∀ k, k < N → parseFieldDescriptor (T k).2.2.1 = some (ty k)) (hcl : Cond.classLink own index C ∈ wg) (hinst : Cond.instantiable C N ∈ wg) (hini : Cond.initialized C ∈ wg) (hci : vwCl[ci]? = some (C, T, N)) {fs : List Value} (hfs : ∀ j, j < N → defaultValue (ty j) = vp_V fs j) (hc : cs + 1 ≤ R.cells) (hs : sl + N ≤ R.slots) (d : decode cc pc = .ok (.new index, 3))
    (k : ∀ q : Nat, BW p l e R s m args below meth c G A nL (cs + 1) (sl + N) Q (pc + 3) ls (.ref q :: st) (ws ++ [(q, .inr (ci, fs))])) : BW p l e R s m args below meth c G A nL cs sl Q pc ls st ws := fun H locs la hP hD hS hl =>
  va_new (D := G.1) (cl := vwCl) B0.1 B0.2.1 B0.ww hin ty hty B0.oo (B0.ww _ hcl) (B0.ww _ hinst) (B0.ww _ hini) B0.kk hP hD hS B0.aa hci hfs hc hs d (fun q H1 hP1 hD1 hS1 => k q H1 locs la hP1 hD1 hS1 hl)
theorem b_putF (B0 : Bx p s m args meth c G A cc own nL) {ref C : String} {T : u_T} {N ci index a : Nat} (q0 : Nat) {fs : List Value} (he : ws[q0]? = some (a, .inr (ci, fs))) (j : Nat) (ty0 : Nat → FieldType) (hty : ∀ k, k < N → parseFieldDescriptor (T k).2.2.1 = some (ty0 k)) (hnm : ∀ a, a < N → ∀ b, b < N → a ≠ b → (T a).2.1 ≠ (T b).2.1) (hci : vwCl[ci]? = some (C, T, N)) (hin : ∀ w ∈ u_ws C T N, w ∈ wg) (hj : j < N) (hlink : Cond.fieldLink own index ref (T j).2.1 (T j).2.2.1 ∈ wg) (hsame : (T j).1 = ref) (hfin : (T j).2.2.2 = true) (hin2 : meth.name = "<init>") (hdecl : (T j).1 = own) {ty : FieldType} {v : Value} (hd : parseFieldDescriptor (T j).2.2.1 = some ty) (hn : narrow ty v = v) (hfit : fits ty v = true) (hl2 : j < fs.length) (d : decode cc pc = .ok (.putfield index, 3))
    (k : BW p l e R s m args below meth c G A nL cs sl Q (pc + 3) ls st (ws.set q0 (a, .inr (ci, fs.set j v)))) : BW p l e R s m args below meth c G A nL cs sl Q pc ls (v :: .ref a :: st) ws := fun H locs la hP hD hS hl =>
  va_putF (D := G.1) (cl := vwCl) B0.1 B0.2.1 B0.ww hin ty0 hty hnm B0.oo B0.kk hP hD hS q0 he hci j hj (B0.ww _ hlink) (fun x h => by rw [← hsame]; exact h) hfin hin2 hdecl hd hn hfit hl2 d (fun H1 locs1 hP1 hD1 hS1 => k H1 locs1 la hP1 hD1 hS1 hl)
theorem b_put (B0 : Bx p s m args meth c G A cc own nL) {ref C : String} {T : u_T} {N ci index a : Nat} (q0 : Nat) {fs : List Value} (he : ws[q0]? = some (a, .inr (ci, fs))) (j : Nat) (ty0 : Nat → FieldType) (hty : ∀ k, k < N → parseFieldDescriptor (T k).2.2.1 = some (ty0 k)) (hnm : ∀ a, a < N → ∀ b, b < N → a ≠ b → (T a).2.1 ≠ (T b).2.1) (hci : vwCl[ci]? = some (C, T, N)) (hin : ∀ w ∈ u_ws C T N, w ∈ wg) (hj : j < N) (hlink : Cond.fieldLink own index ref (T j).2.1 (T j).2.2.1 ∈ wg) (hsame : (T j).1 = ref) (hfin : (T j).2.2.2 = false) {ty : FieldType} {v : Value} (hd : parseFieldDescriptor (T j).2.2.1 = some ty) (hn : narrow ty v = v) (hfit : fits ty v = true) (hl2 : j < fs.length) (d : decode cc pc = .ok (.putfield index, 3))
    (k : BW p l e R s m args below meth c G A nL cs sl Q (pc + 3) ls st (ws.set q0 (a, .inr (ci, fs.set j v)))) : BW p l e R s m args below meth c G A nL cs sl Q pc ls (v :: .ref a :: st) ws := fun H locs la hP hD hS hl =>
  va_put (D := G.1) (cl := vwCl) B0.1 B0.2.1 B0.ww hin ty0 hty hnm B0.oo B0.kk hP hD hS q0 he hci j hj (B0.ww _ hlink) (fun x h => by rw [← hsame]; exact h) hfin hd hn hfit hl2 d (fun H1 locs1 hP1 hD1 hS1 => k H1 locs1 la hP1 hD1 hS1 hl)
theorem b_get (B0 : Bx p s m args meth c G A cc own nL) {ref C : String} {T : u_T} {N ci index a : Nat} (q0 : Nat) {fs : List Value} (he : ws[q0]? = some (a, .inr (ci, fs))) (j : Nat) (hci : vwCl[ci]? = some (C, T, N)) (hin : ∀ w ∈ u_ws C T N, w ∈ wg) (hj : j < N) (hlink : Cond.fieldLink own index ref (T j).2.1 (T j).2.2.1 ∈ wg) (hsame : (T j).1 = ref) {v : Value} (hv : fs[j]? = some v) (d : decode cc pc = .ok (.getfield index, 3)) (k : BW p l e R s m args below meth c G A nL cs sl Q (pc + 3) ls (v :: st) ws) : BW p l e R s m args below meth c G A nL cs sl Q pc ls (.ref a :: st) ws := fun H locs la hP hD hS hl =>
  va_get (D := G.1) (cl := vwCl) B0.1 B0.2.1 B0.ww hin B0.oo B0.kk hP q0 he hci j hj (B0.ww _ hlink) (fun x h => by rw [← hsame]; exact h) hv d (k H locs la hP hD hS hl)
theorem b_iast (B0 : Bx p s m args meth c G A cc own nL) {a n : Nat} {f : Nat → Int32} {i x : Int32} (q0 : Nat) (he : ws[q0]? = some (a, .inl (G.2.1 0, n, .inl f))) (hin : vp_in i n) (d : decode cc pc = .ok (.iastore, 1)) (k : BW p l e R s m args below meth c G A nL cs sl Q (pc + 1) ls st (ws.set q0 (a, .inl (G.2.1 0, n, .inl (upd f i.toNatClampNeg x))))) : BW p l e R s m args below meth c G A nL cs sl Q pc ls (.int x :: .int i :: .ref a :: st) ws := fun H locs la hP hD hS hl =>
  va_iast (D := G.1) (cl := vwCl) B0.1 B0.2.1 B0.kk hP hD hS q0 0 he rfl hin d (fun H1 locs1 hP1 hD1 hS1 => k H1 locs1 la hP1 hD1 hS1 hl)
theorem b_astq (B0 : Bx p s m args meth c G A cc own nL) {a n v ci t0 : Nat} {C : String} {T : u_T} {N9 : Nat} {vs : List Value} {f : Nat → Option Nat} {i : Int32} (q0 qk : Nat) (he : ws[q0]? = some (a, .inl (G.2.1 t0, n, .inr (.inr (.inr (.inr f)))))) (ht : (tysG G)[t0]? = some (G.2.1 t0, .object C)) (hv : ws[qk]? = some (v, .inr (ci, vs))) (hci : vwCl[ci]? = some (C, T, N9)) (hin : vp_in i n) (d : decode cc pc = .ok (.aastore, 1)) (k : BW p l e R s m args below meth c G A nL cs sl Q (pc + 1) ls st (ws.set q0 (a, .inl (G.2.1 t0, n, .inr (.inr (.inr (.inr (va_up f i.toNatClampNeg (some v))))))))) : BW p l e R s m args below meth c G A nL cs sl Q pc ls (.ref v :: .int i :: .ref a :: st) ws := fun H locs la hP hD hS hl =>
  va_astq (D := G.1) (cl := vwCl) B0.1 B0.2.1 B0.kk hP hD hS q0 t0 qk ci he ht hv hci hin d (fun H1 locs1 hP1 hD1 hS1 => k H1 locs1 la hP1 hD1 hS1 hl)
theorem b_grid (B0 : Bx p s m args meth c G A cc own nL) {index : Nat} (hlink : Cond.classLink own index "[[I" ∈ wg) (hc : cs + 11 ≤ R.cells) (hs : sl + 40 ≤ R.slots) (d : decode cc pc = .ok (.multianewarray index 2, 4))
    (k : ∀ q : Nat, BW p l e R s m args below meth c G A nL (cs + 11) (sl + 40) Q (pc + 4) ls (.ref q :: st) (ws ++ ((q, .inl (G.2.1 2, 10, .inr (.inr (.inr (.inr (fun i => if i < 10 then some (q + 1 + i) else none)))))) :: (List.range 10).map (fun j => (q + 1 + j, .inl (G.2.1 0, 3, .inl (fun _ => 0))))))) : BW p l e R s m args below meth c G A nL cs sl Q pc ls (.int 3 :: .int 10 :: st) ws := by
  intro H locs la hP hD hS hl
  refine w_grid B0.1 B0.2.1 B0.oo (B0.ww _ hlink) B0.zw.1 d hc hs (fun H1 locs1 z1 hK hL => ?_)
  have o1 : ∀ a : Nat, a < H.size → H1[a]? = H[a]? := fun a ha => (hK a).trans (gk_old _ _ _ ha)
  have e0 := (hK H.size).trans (gk_outer _ _ _ _)
  have e1 : ∀ j : Nat, j < 10 → H1[H.size + 1 + j]? = some (gk_in (G.2.1 0)) := fun j hj => (hK _).trans (gk_inner _ _ _ hj)
  have hat : ∀ (i : Nat) (x : Nat × va_E), ((H.size, (Sum.inl (G.2.1 2, 10, .inr (.inr (.inr (.inr (fun i => if i < 10 then some (H.size + 1 + i) else none))))) : va_E)) :: (List.range 10).map (fun j => (H.size + 1 + j, (Sum.inl (G.2.1 0, 3, .inl (fun _ => 0)) : va_E))))[i]? = some x → va_at G.1 vwCl x H1 ∧ x.1 = H.size + i := by
    intro i x hx
    cases i with
    | zero =>
      cases hx
      refine ⟨?_, rfl⟩
      show H1[H.size]? = some (arrV (G.2.1 2) 10 (fun j => va_rf (if j < 10 then some (H.size + 1 + j) else none)))
      rw [e0]
      unfold gk_out
      congr 2
      funext j
      by_cases hj : j < 10
      · rw [if_pos hj, if_pos hj]
        rfl
      · rw [if_neg hj, if_neg hj]
        rfl
    | succ j =>
      rw [List.getElem?_cons_succ, List.getElem?_map] at hx
      have hj : j < 10 := by
        rcases Nat.lt_or_ge j 10 with h | h
        · exact h
        · rw [List.getElem?_eq_none (by rw [List.length_range]; exact h)] at hx
          cases hx
      rw [List.getElem?_range hj] at hx
      cases hx
      refine ⟨e1 j hj, ?_⟩
      show H.size + 1 + j = H.size + (j + 1)
      omega
  refine k H.size H1 locs1 la ?_ ?_ ?_ hl
  · intro i x hx
    by_cases hi : i < ws.length
    · rw [List.getElem?_append_left hi] at hx
      exact (hP i x hx).kept (o1 _ (hP i x hx).lt)
    · rw [List.getElem?_append_right (by omega)] at hx
      exact (hat _ x hx).1
  · refine ⟨fun i j x y hx hy hxy => ?_, fun i x hx => ?_⟩
    · by_cases hi : i < ws.length
      · rw [List.getElem?_append_left hi] at hx
        by_cases hj : j < ws.length
        · rw [List.getElem?_append_left hj] at hy
          exact hD.1 i j x y hx hy hxy
        · rw [List.getElem?_append_right (by omega)] at hy
          have a1 := (hP i x hx).lt
          have a2 := (hat _ y hy).2
          omega
      · rw [List.getElem?_append_right (by omega)] at hx
        have a1 := (hat _ x hx).2
        by_cases hj : j < ws.length
        · rw [List.getElem?_append_left hj] at hy
          have a2 := (hP j y hy).lt
          omega
        · rw [List.getElem?_append_right (by omega)] at hy
          have a2 := (hat _ y hy).2
          omega
    · by_cases hi : i < ws.length
      · rw [List.getElem?_append_left hi] at hx
        exact hD.2 i x hx
      · rw [List.getElem?_append_right (by omega)] at hx
        have a1 := (hat _ x hx).2
        exact B0.aa _ (by have := hS.1; omega)
  · refine ⟨by have := hS.1; omega, fun q h1 h2 => (o1 q (Nat.lt_of_lt_of_le h1 hS.1)).trans (hS.2.1 q h1 h2), fun q hq => ?_⟩
    rcases hL q hq with h | h
    · exact hS.2.2 q h
    · rw [h]
      exact B0.aa _ hS.1
/-- a constructor called on the newest cell -/
theorem b_callI (B0 : Bx p s m args meth c G A cc own nL) {ws0 : va_W} {y : MethodName} {cb : ByteArray} {maxL ci k' mc ms N' q index : Nat} {fs : List Value} {shf : (Nat → Nat) → SH} {post : WM → Prop} (hC : BTC l G y cb maxL ci fs N' shf post k' mc ms)
    (hrun : ∀ (H : Heap) (locs : List Loc) (la : Array Slot), la.size = nL → PreS s H (va_Pc [.ref q] (BPre G q ci fs H.size)) [.ref q] → va_Run p l e R s m args below meth c H locs cs sl mc ms (F0 m pc la (.ref q :: st)) st (BQ G q N' shf post (va_A [(q, .inr (ci, fs))] H.size) #[.ref q]) (va_A [(q, .inr (ci, fs))] H.size))
    (k : ∀ (ad : Nat → Nat) (M : WM), ad 0 = q → post M → BW p l e R s m args below meth c G A nL (cs + mc) (sl + ms) Q (pc + 3) ls st (ws0 ++ wC N' ad (shf ad) M)) : BW p l e R s m args below meth c G A nL cs sl Q pc ls (.ref q :: st) (ws0 ++ [(q, .inr (ci, fs))]) := by
  intro H locs la hP hD hS hl
  have hlast : (ws0 ++ [(q, (Sum.inr (ci, fs) : va_E))])[ws0.length]? = some (q, .inr (ci, fs)) := by
    rw [List.getElem?_append_right (Nat.le_refl _), Nat.sub_self]
    rfl
  have hAq : A q := hD.2 _ _ hlast
  have hA1 : ∀ x, va_A [(q, (Sum.inr (ci, fs) : va_E))] H.size x → A x := by
    rintro x (⟨i, ee, h⟩ | h)
    · cases i with
      | zero =>
        cases h
        exact hAq
      | succ i => cases h
    · exact B0.aa x (Nat.le_trans hS.1 h)
  have hP1 : va_P G.1 vwCl [(q, (Sum.inr (ci, fs) : va_E))] H := fun i x hx => by
    cases i with
    | zero =>
      cases hx
      exact hP _ _ hlast
    | succ i => cases hx
  have hD1 : va_D (fun _ => True) [(q, (Sum.inr (ci, fs) : va_E))] := ⟨(fun i j x y hx hy _ => by
    cases i with
    | zero =>
      cases j with
      | zero => rfl
      | succ j => cases hy
    | succ i => cases hx), fun _ _ _ => trivial⟩
  have hpre : PreS s H (va_Pc [.ref q] (BPre G q ci fs H.size)) [.ref q] := by
    refine ⟨fun a U g mk z => ?_, fun U hU hW => ?_⟩
    · obtain ⟨z0, z1, zP, zK, zD, zN, zS, zZ⟩ := z
      exact ⟨z0, z1, zP, va_K.moved (u := U) (U := U.calling g mk a) (Vm.Alike.refl U.vm) zK, zD, zN.same rfl, SF.moved (u := U) (U := U.calling g mk a) (Vm.Alike.refl U.vm) zS, zZ.same rfl⟩
    · refine ⟨rfl, by rw [hU], by rw [hU]; exact hP1, va_K.moved hW.alike B0.kk, hD1, B0.nw.warm hW, ?_, B0.zw.warm hW⟩
      rw [hU]
      exact ((B0.sf.kept hS.2.1).moved hW.alike).narrow hA1
  refine va_callv (hrun H locs la hl.1 hpre) hS (fun x _ => hA1 x) hA1 (fun u t H1 locs1 ht hvm hw hB hz hk hS1 => ?_)
  obtain ⟨hBP, hBD⟩ := hB
  rw [ht] at hBP
  have hold : ∀ i x, ws0[i]? = some x → x.1 < H.size ∧ x.1 ≠ q ∧ va_at G.1 vwCl x H := fun i x hx => by
    have hi : i < ws0.length := (List.getElem?_eq_some_iff.mp hx).1
    have hx2 : (ws0 ++ [(q, (Sum.inr (ci, fs) : va_E))])[i]? = some x := by
      rw [List.getElem?_append_left hi]
      exact hx
    refine ⟨(hP i x hx2).lt, fun z => ?_, hP i x hx2⟩
    have := hD.1 i ws0.length _ _ hx2 hlast z
    omega
  have hnew : ∀ x, va_A [(q, (Sum.inr (ci, fs) : va_E))] H.size x → x = q ∨ H.size ≤ x := by
    rintro x (⟨i, ee, h⟩ | h)
    · cases i with
      | zero =>
        cases h
        exact Or.inl rfl
      | succ i => cases h
    · exact Or.inr h
  refine k u.1 u.2 hw.1 hw.2 H1 locs1 la ?_ ?_ hS1 hl
  · intro i x hx
    by_cases hi : i < ws0.length
    · rw [List.getElem?_append_left hi] at hx
      obtain ⟨a1, a2, a3⟩ := hold i x hx
      refine a3.kept (hk _ a1 fun z => ?_)
      rcases hnew _ z with h | h
      · exact a2 h
      · omega
    · rw [List.getElem?_append_right (by omega)] at hx
      exact hBP _ x hx
  · refine ⟨fun i j x z hx hy hxy => ?_, fun i x hx => ?_⟩
    · by_cases hi : i < ws0.length
      · rw [List.getElem?_append_left hi] at hx
        obtain ⟨a1, a2, -⟩ := hold i x hx
        by_cases hj : j < ws0.length
        · rw [List.getElem?_append_left hj] at hy
          refine hD.1 i j x z ?_ ?_ hxy
          · rw [List.getElem?_append_left hi]
            exact hx
          · rw [List.getElem?_append_left hj]
            exact hy
        · rw [List.getElem?_append_right (by omega)] at hy
          rcases hnew _ (hBD.2 _ z hy) with h | h
          · exact absurd (hxy.trans h) a2
          · omega
      · rw [List.getElem?_append_right (by omega)] at hx
        by_cases hj : j < ws0.length
        · rw [List.getElem?_append_left hj] at hy
          obtain ⟨a1, a2, -⟩ := hold j z hy
          rcases hnew _ (hBD.2 _ x hx) with h | h
          · exact absurd (hxy.symm.trans h) a2
          · omega
        · rw [List.getElem?_append_right (by omega)] at hy
          have := hBD.1 _ _ x z hx hy hxy
          omega
    · by_cases hi : i < ws0.length
      · rw [List.getElem?_append_left hi] at hx
        refine hD.2 i x ?_
        rw [List.getElem?_append_left hi]
        exact hx
      · rw [List.getElem?_append_right (by omega)] at hx
        exact hA1 _ (hBD.2 _ x hx)
theorem b_callIo (B0 : Bx p s m args meth c G A cc own nL) {ws0 : va_W} {y : MethodName} {cb : ByteArray} {maxL ci k' mc ms N' q index : Nat} {fs : List Value} {shf : (Nat → Nat) → SH} {post : WM → Prop} (hC : BTC l G y cb maxL ci fs N' shf post k' mc ms) (hcode : Cond.code y cb maxL none ∈ wg) (hlink : Cond.methodLink own index y ∈ wg) (him : Cond.instanceMethod y ∈ wg) (hini : Cond.initialized y.cls ∈ wg) (hnm : y.name = "<init>") (hy : y.cls ≠ "java/lang/invoke/MethodHandle" ∧ y.cls ≠ "java/lang/invoke/VarHandle" ∧ (parseMethodDescriptor y.desc).map (fun d => d.parameters.length) = some 0) (hR : k' + 1 ≤ R.frames ∧ 8 + (maxL + 11) + 64 * k' ≤ R.locals ∧ cs + mc ≤ R.cells ∧ sl + ms ≤ R.slots) (hW : (st.map fun v => v.category).sum ≤ 8) (d : decode cc pc = .ok (.invokespecial index, 3))
    (k : ∀ (ad : Nat → Nat) (M : WM), ad 0 = q → post M → BW p l e R s m args below meth c G A nL (cs + mc) (sl + ms) Q (pc + 3) ls st (ws0 ++ wC N' ad (shf ad) M)) : BW p l e R s m args below meth c G A nL cs sl Q pc ls (.ref q :: st) (ws0 ++ [(q, .inr (ci, fs))]) :=
  b_callI (index := index) B0 hC (fun H locs la hla hpre => va_runI (Ts := wg) (rm := rmB k' mc ms) (As := []) ⟨B0.1, B0.2.1, B0.2.2.1, B0.oo, B0.ww⟩ (hC q H.size) (cwI 0 B0.ww (goodIn_wsm hcode) rfl rfl rfl (B0.ww _ hini) (B0.ww _ hlink) (B0.ww _ him) hnm hy ⟨hR.1, hR.2.1⟩) hpre rfl rfl hla rfl (lv_room hW) d ⟨hR.2.2.1, hR.2.2.2⟩) k
theorem b_callIn (B0 : Bx p s m args meth c G A cc own nL) {ws0 : va_W} {y : MethodName} {cb : ByteArray} {host : String} {maxL ci k' mc ms N' q index : Nat} {fs : List Value} {shf : (Nat → Nat) → SH} {post : WM → Prop} (hC : BTC l G y cb maxL ci fs N' shf post k' mc ms) (hcode : Cond.code y cb maxL none ∈ wg) (hlink : va_Nw (.methodLinkNest own index y host) s) (him : Cond.instanceMethod y ∈ wg) (hini : Cond.initialized y.cls ∈ wg) (hnm : y.name = "<init>") (hy : y.cls ≠ "java/lang/invoke/MethodHandle" ∧ y.cls ≠ "java/lang/invoke/VarHandle" ∧ (parseMethodDescriptor y.desc).map (fun d => d.parameters.length) = some 0) (hR : k' + 1 ≤ R.frames ∧ 8 + (maxL + 11) + 64 * k' ≤ R.locals ∧ cs + mc ≤ R.cells ∧ sl + ms ≤ R.slots) (hW : (st.map fun v => v.category).sum ≤ 8) (d : decode cc pc = .ok (.invokespecial index, 3))
    (k : ∀ (ad : Nat → Nat) (M : WM), ad 0 = q → post M → BW p l e R s m args below meth c G A nL (cs + mc) (sl + ms) Q (pc + 3) ls st (ws0 ++ wC N' ad (shf ad) M)) : BW p l e R s m args below meth c G A nL cs sl Q pc ls (.ref q :: st) (ws0 ++ [(q, .inr (ci, fs))]) :=
  b_callI (index := index) B0 hC (fun H locs la hla hpre => va_runIN (Ts := wg) (rm := rmB k' mc ms) (As := []) ⟨B0.1, B0.2.1, B0.2.2.1, B0.oo, B0.ww⟩ (hC q H.size) ⟨va_cnB 0 B0.ww (goodIn_wsm hcode) rfl rfl rfl hlink (B0.ww _ hini) hy ⟨hR.1, hR.2.1⟩, hnm, B0.ww _ him⟩ hpre rfl rfl hla rfl (lv_room hW) d ⟨hR.2.2.1, hR.2.2.2⟩) k
/-- its end -/
theorem a_bret {N : Nat} {ad : Nat → Nat} {sh : SH} {M : WM} (C0 : Cx p s m args meth c G A N ad cc own nL) {h0 : Nat} {shf : (Nat → Nat) → SH} {post : WM → Prop} (hr : meth.sig.returnType = none) (d : decode cc pc = .ok (.return_, 1)) (h : ad 0 = h0) (hs : sh = shf ad) (hp : post M) : AW p l e R s m args below meth c G A N ad sh nL cs sl (MQ below (BQ G h0 N shf post A) args s cs sl A) pc ls [] M := fun H locs la hP hS hl =>
  W.vret C0.1 C0.2.1 hr (fun t ht hW => ⟨⟨(ad, M), rfl, ⟨h, hp⟩, by rw [ht, ← hs]; exact hP, by rw [← hs]; exact C0.dd⟩, hS.F ht⟩) hS.2.2 d C0.2.2.2.2.2.1
end BWs
theorem BTC.of {l : Launch} {G : GE} {y : MethodName} {cb : ByteArray} {maxL ci N k mc ms : Nat} {fs : List Value} {shf : (Nat → Nat) → SH} {post : WM → Prop} {own : String} (hy : plainName y.cls = true) (hown : y.cls = own) (hnm : y.name = "<init>") (hlen : 1 ≤ maxL)
    (h : ∀ (h0 : Nat) (p : Program) (e : Env) (s : State) (m : MethodId) (args : Array Value) (below : List Frame) (meth : Method) (c : Code) (A : Nat → Prop), Bx p s m args meth c G A cb own maxL → meth.sig.returnType = none → meth.name = "<init>" → BW p l e (rmB k mc ms) s m args below meth c G A maxL 0 0 (MQ below (BQ G h0 N shf post A) args s mc ms A) 0 [(0, .ref h0)] [] [(h0, .inr (ci, fs))]) : BTC l G y cb maxL ci fs N shf post k mc ms := by
  intro h0 sz
  refine Met.ofW (cc := cb) (maxL := maxL) (ret := none) hy rfl ?_
  intro p e s m args below meth c s₁ B hml hv
  obtain ⟨rfl, hsz, hP, hK, hD0, hN, hSF, hZ⟩ := hv
  subst hsz
  have hts := atoms_spec (ws := wsm y cb maxL none) B.pre
  have hl := lv_entry [.ref h0] (n := maxL) (by show 1 ≤ maxL; exact hlen)
  rw [lg_entry_eq]
  generalize (lg_sl [.ref h0] ++ List.replicate (maxL - (lg_sl [.ref h0]).length) Slot.unset).toArray = la at hl ⊢
  exact h h0 p e s m _ below meth c (va_A [(h0, .inr (ci, fs))] s.heap.size) ⟨B.exec, B.bytes, hml, by rw [← hown]; exact findClass_of_methodNamed B.named, fun w hw => hts w (List.mem_cons_of_mem _ hw), B.notSynchronized, hK, fun q z => Or.inr z, hN, hSF, hZ⟩ B.returns (by rw [(name_of_methodNamed B.named B.method).1]; exact hnm) s.heap [] la hP (hD0.self) va_S.rf hl

