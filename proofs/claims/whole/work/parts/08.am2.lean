
section AM2
variable {p : Program} {l : Launch} {e : Env} {R : Room} {s : State} {m : MethodId} {args : Array Value} {below : List Frame} {meth : Method} {c : Code} {G : GE} {A : Nat → Prop} {N : Nat} {ad : Nat → Nat} {sh : SH} {nL cs sl : Nat} {Q : State → Prop} {cc : ByteArray} {own : String} {pc : Nat} {ls : LV} {st : List Value} {M : WM}
theorem a_get (C0 : Cx p s m args meth c G A N ad cc own nL) {ci n index : Nat} {ref C : String} {T : u_T} {fs : List Value} {v : Value} {q : Nat} (j : Nat) (hc : vwCl[ci]? = some (C, T, n)) (hin : ∀ w ∈ u_ws C T n, w ∈ wg) (hj : j < n) (hlink : Cond.fieldLink own index ref (T j).2.1 (T j).2.2.1 ∈ wg) (hsame : (T j).1 = ref) (hq : q < N) (hs : sh q (M q) = .inr (ci, fs)) (hv : fs[j]? = some v) (d : decode cc pc = .ok (.getfield index, 3)) (k : AW p l e R s m args below meth c G A N ad sh nL cs sl Q (pc + 3) ls (v :: st) M) : AW p l e R s m args below meth c G A N ad sh nL cs sl Q pc ls (.ref (ad q) :: st) M :=
  fun H locs la hP hS hl => va_get (D := G.1) (cl := vwCl) C0.1 C0.2.1 C0.ww hin C0.oo C0.kk hP q (by rw [wC_at hq, hs]) hc j hj (C0.ww _ hlink) (fun x h => by rw [← hsame]; exact h) hv d (k H locs la hP hS hl)
theorem a_put (C0 : Cx p s m args meth c G A N ad cc own nL) {ci n index : Nat} {ref C : String} {T : u_T} {fs : List Value} {q : Nat} {ty : FieldType} {x : Int32} (j : Nat) (ty0 : Nat → FieldType) (hty : ∀ k, k < n → parseFieldDescriptor (T k).2.2.1 = some (ty0 k)) (hnm : ∀ a, a < n → ∀ b, b < n → a ≠ b → (T a).2.1 ≠ (T b).2.1) (hc : vwCl[ci]? = some (C, T, n)) (hin : ∀ w ∈ u_ws C T n, w ∈ wg) (hj : j < n) (hlink : Cond.fieldLink own index ref (T j).2.1 (T j).2.2.1 ∈ wg) (hsame : (T j).1 = ref) (hfin : (T j).2.2.2 = false) (hd : parseFieldDescriptor (T j).2.2.1 = some ty) (hq : q < N) (hs : sh q (M q) = .inr (ci, fs)) (hl : j < fs.length) (hs2 : sh q (upd (M q) j x) = .inr (ci, fs.set j (.int x))) (hn : narrow ty (.int x) = .int x) (hfit : fits ty (.int x) = true)
    (d : decode cc pc = .ok (.putfield index, 3)) (k : AW p l e R s m args below meth c G A N ad sh nL cs sl Q (pc + 3) ls st (up2 M q j x)) : AW p l e R s m args below meth c G A N ad sh nL cs sl Q pc ls (.int x :: .ref (ad q) :: st) M := by
  intro H locs la hP hS hla
  refine va_put (D := G.1) (cl := vwCl) C0.1 C0.2.1 C0.ww hin ty0 hty hnm C0.oo C0.kk hP C0.dd hS q (by rw [wC_at hq, hs]) hc j hj (C0.ww _ hlink) (fun x h => by rw [← hsame]; exact h) hfin hd hn hfit hl d (fun H1 locs1 hP1 hD1 hS1 => ?_)
  rw [wC_set hq hs2, up2_va] at hP1
  exact k H1 locs1 la hP1 hS1 hla
theorem a_iald (C0 : Cx p s m args meth c G A N ad cc own nL) {q n : Nat} {f : Nat → Int32} {i : Int32} (j : Nat) (hq : q < N) (hs : sh q (M q) = .inl (G.2.1 0, n, .inl f)) (hin : vp_in i n) (hj : i.toNatClampNeg = j) (d : decode cc pc = .ok (.iaload, 1)) (k : AW p l e R s m args below meth c G A N ad sh nL cs sl Q (pc + 1) ls (.int (f j) :: st) M) : AW p l e R s m args below meth c G A N ad sh nL cs sl Q pc ls (.int i :: .ref (ad q) :: st) M :=
  fun H locs la hP hS hl => va_iald (D := G.1) (cl := vwCl) C0.1 C0.2.1 C0.kk hP q 0 (by rw [wC_at hq, hs]) rfl hin d (by rw [hj]; exact k H locs la hP hS hl)
theorem a_bald (C0 : Cx p s m args meth c G A N ad cc own nL) {q n : Nat} {f : Nat → Int32} {i : Int32} (j : Nat) (hq : q < N) (hs : sh q (M q) = .inl (G.2.1 1, n, .inl f)) (hin : vp_in i n) (hj : i.toNatClampNeg = j) (d : decode cc pc = .ok (.baload, 1)) (k : AW p l e R s m args below meth c G A N ad sh nL cs sl Q (pc + 1) ls (.int (f j) :: st) M) : AW p l e R s m args below meth c G A N ad sh nL cs sl Q pc ls (.int i :: .ref (ad q) :: st) M :=
  fun H locs la hP hS hl => va_bald (D := G.1) (cl := vwCl) C0.1 C0.2.1 C0.kk hP q 1 (by rw [wC_at hq, hs]) rfl hin d (by rw [hj]; exact k H locs la hP hS hl)
theorem a_iast (C0 : Cx p s m args meth c G A N ad cc own nL) {q n : Nat} {i x : Int32} (j : Nat) (hq : q < N) (hs : ∀ f, sh q f = .inl (G.2.1 0, n, .inl f)) (hin : vp_in i n) (hj : i.toNatClampNeg = j) (d : decode cc pc = .ok (.iastore, 1)) (k : AW p l e R s m args below meth c G A N ad sh nL cs sl Q (pc + 1) ls st (up2 M q j x)) : AW p l e R s m args below meth c G A N ad sh nL cs sl Q pc ls (.int x :: .int i :: .ref (ad q) :: st) M := by
  intro H locs la hP hS hla
  refine va_iast (D := G.1) (cl := vwCl) C0.1 C0.2.1 C0.kk hP C0.dd hS q 0 (by rw [wC_at hq, hs]) rfl hin d (fun H1 locs1 hP1 hD1 hS1 => ?_)
  rw [hj, wC_set hq (hs _), up2_va] at hP1
  exact k H1 locs1 la hP1 hS1 hla
theorem a_bast (C0 : Cx p s m args meth c G A N ad cc own nL) {q n : Nat} {i x : Int32} (j : Nat) (hq : q < N) (hs : ∀ f, sh q f = .inl (G.2.1 1, n, .inl f)) (hin : vp_in i n) (hj : i.toNatClampNeg = j) (d : decode cc pc = .ok (.bastore, 1)) (k : AW p l e R s m args below meth c G A N ad sh nL cs sl Q (pc + 1) ls st (up2 M q j x.toInt8.toInt32)) : AW p l e R s m args below meth c G A N ad sh nL cs sl Q pc ls (.int x :: .int i :: .ref (ad q) :: st) M := by
  intro H locs la hP hS hla
  refine va_bast (D := G.1) (cl := vwCl) C0.1 C0.2.1 C0.kk hP C0.dd hS q 1 (by rw [wC_at hq, hs]) rfl hin d (fun H1 locs1 hP1 hD1 hS1 => ?_)
  rw [hj, wC_set hq (hs _), up2_va, vp_nar_byte] at hP1
  exact k H1 locs1 la hP1 hS1 hla
theorem a_aald (C0 : Cx p s m args meth c G A N ad cc own nL) {q n t0 : Nat} {ty : FieldType} {f : Nat → Option Nat} {i : Int32} (j r : Nat) (ht : (tysG G)[t0]? = some (G.2.1 t0, ty)) (hty : ty.isReference = true) (hq : q < N) (hs : sh q (M q) = .inl (G.2.1 t0, n, .inr (.inr (.inr (.inr f))))) (hin : vp_in i n) (hj : i.toNatClampNeg = j) (hf : f j = some (ad r)) (d : decode cc pc = .ok (.aaload, 1)) (k : AW p l e R s m args below meth c G A N ad sh nL cs sl Q (pc + 1) ls (.ref (ad r) :: st) M) : AW p l e R s m args below meth c G A N ad sh nL cs sl Q pc ls (.int i :: .ref (ad q) :: st) M := by
  intro H locs la hP hS hl
  have hlt : i.toNatClampNeg < n := Nat.not_le.mp fun q => hin (Or.inr q)
  have hc := hP q _ (wC_at hq)
  rw [hs] at hc
  have hc : H[ad q]? = some (arrV (G.2.1 t0) n (fun j => va_rf (f j))) := hc
  refine W.aald (v := .ref (ad r)) (ty := ty) C0.1 C0.2.1 hc ((C0.kk.2 t0 _ ht).1 n (fun j => va_rf (f j))) hty (fun q => by cases q) (by rw [arrV_size]; exact hin) (by rw [arrV_read _ _ hlt, hj, hf]; rfl) rfl rfl d ?_
  exact k H locs la hP hS hl
/-- a static array of the class's own -/
theorem a_gets (C0 : Cx p s m args meth c G A N ad cc own nL) {index : Nat} (k0 : Nat) (hk : k0 < 4) (hlink : Cond.fieldLink own index "WarmGossip" (st_name k0) "[I" ∈ wg) (d : decode cc pc = .ok (.getstatic index, 3)) (hs0 : ∀ q : Nat, s.heap.size ≤ q → A q) (k : AW p l e R s m args below meth c G A N ad sh nL cs sl Q (pc + 3) ls (.ref (G.2.2.2.2 k0) :: st) M) : AW p l e R s m args below meth c G A N ad sh nL cs sl Q pc ls st M :=
  fun H locs la hP hS hl => va_gets C0.1 C0.2.1 (C0.sf.1 k0 hk).1 hS C0.oo (C0.ww _ hlink) (fun _ h => h) d (k H locs la hP hS hl)
theorem a_getsN (C0 : Cx p s m args meth c G A N ad cc own nL) {index : Nat} (k0 : Nat) (hk : k0 < 4) (hlink : va_Nw (.fieldLinkNest own index "WarmGossip" (st_name k0) "[I" "WarmGossip") s) (d : decode cc pc = .ok (.getstatic index, 3)) (k : AW p l e R s m args below meth c G A N ad sh nL cs sl Q (pc + 3) ls (.ref (G.2.2.2.2 k0) :: st) M) : AW p l e R s m args below meth c G A N ad sh nL cs sl Q pc ls st M :=
  fun H locs la hP hS hl => va_getsN C0.1 C0.2.1 (C0.sf.1 k0 hk).1 hS C0.oo (va_Nw.use rfl hlink) (fun _ h => h) d (k H locs la hP hS hl)
theorem a_ti (C0 : Cx p s m args meth c G A N ad cc own nL) {i : Int32} (k0 : Nat) (j : Nat) (hk : k0 < 4) (hin : vp_in i (st_vals k0).length) (hj : i.toNatClampNeg = j) (d : decode cc pc = .ok (.iaload, 1)) (k : AW p l e R s m args below meth c G A N ad sh nL cs sl Q (pc + 1) ls (.int ((st_vals k0).getD j 0) :: st) M) : AW p l e R s m args below meth c G A N ad sh nL cs sl Q pc ls (.int i :: .ref (G.2.2.2.2 k0) :: st) M :=
  fun H locs la hP hS hl => va_ti C0.1 C0.2.1 (C0.sf.1 k0 hk).2 hS hin (by rw [hj]) d (k H locs la hP hS hl)
theorem a_alen (C0 : Cx p s m args meth c G A N ad cc own nL) {q n t0 : Nat} {cA : ClassId} {x : vp_A} (v : Int32) (t0 : Nat) {ty : FieldType} (ht : (tysG G)[t0]? = some (cA, ty)) (hq : q < N) (hs : sh q (M q) = .inl (cA, x)) (hv : Int32.ofNat x.1 = v) (d : decode cc pc = .ok (.arraylength, 1)) (k : AW p l e R s m args below meth c G A N ad sh nL cs sl Q (pc + 1) ls (.int v :: st) M) : AW p l e R s m args below meth c G A N ad sh nL cs sl Q pc ls (.ref (ad q) :: st) M :=
  fun H locs la hP hS hl => va_alen (D := G.1) (cl := vwCl) C0.1 C0.2.1 C0.kk hP q t0 (by rw [wC_at hq, hs]) ht hv d (k H locs la hP hS hl)
/-- the same world, told otherwise -/
theorem AW.congr {M2 : WM} (h : ∀ i, i < N → sh i (M2 i) = sh i (M i)) (k : AW p l e R s m args below meth c G A N ad sh nL cs sl Q pc ls st M) : AW p l e R s m args below meth c G A N ad sh nL cs sl Q pc ls st M2 := by
  have e : wC N ad sh M2 = wC N ad sh M := by
    unfold wC
    apply List.map_congr_left
    intro i hi
    rw [h i (List.mem_range.mp hi)]
  intro H locs la hP hS hl
  rw [e] at hP
  exact k H locs la hP hS hl
/-- a value on top: two cases -/
theorem a_case {x : Int32} (v : Int32) (ky : x = v → AW p l e R s m args below meth c G A N ad sh nL cs sl Q pc ls (.int v :: st) M) (kn : ¬ x = v → AW p l e R s m args below meth c G A N ad sh nL cs sl Q pc ls (.int x :: st) M) : AW p l e R s m args below meth c G A N ad sh nL cs sl Q pc ls (.int x :: st) M := by
  by_cases h : x = v
  · rw [h]
    exact ky h
  · exact kn h
theorem a_tsIn (C0 : Cx p s m args meth c G A N ad cc own nL) {dflt lo hi : Int} {offs : Array Int} {len : Nat} {x : Int32} {off : Int} (tgt : Nat) (d : decode cc pc = .ok (.tableswitch dflt lo hi offs, len)) (h1 : ¬ x.toInt < lo) (h2 : ¬ hi < x.toInt) (ho : offs[(x.toInt - lo).toNat]? = some off) (ht : (pc : Int) + off = (tgt : Int)) (k : AW p l e R s m args below meth c G A N ad sh nL cs sl Q tgt ls st M) : AW p l e R s m args below meth c G A N ad sh nL cs sl Q pc ls (.int x :: st) M :=
  fun H locs la hP hS hl => lv_tableIn C0.1 C0.2.1 d h1 h2 ho ht (k H locs la hP hS hl)
theorem a_tsOut (C0 : Cx p s m args meth c G A N ad cc own nL) {dflt lo hi : Int} {offs : Array Int} {len : Nat} {x : Int32} (tgt : Nat) (d : decode cc pc = .ok (.tableswitch dflt lo hi offs, len)) (h : x.toInt < lo ∨ hi < x.toInt) (ht : (pc : Int) + dflt = (tgt : Int)) (k : AW p l e R s m args below meth c G A N ad sh nL cs sl Q tgt ls st M) : AW p l e R s m args below meth c G A N ad sh nL cs sl Q pc ls (.int x :: st) M :=
  fun H locs la hP hS hl => lv_tableOut C0.1 C0.2.1 d h ht (k H locs la hP hS hl)
theorem a_lsw (C0 : Cx p s m args meth c G A N ad cc own nL) {dflt : Int} {ps : Array (Int × Int)} {len : Nat} {x : Int32} {off : Int} (tgt : Nat) (d : decode cc pc = .ok (.lookupswitch dflt ps, len)) (hp : (ps.toList.zip (ps.toList.drop 1)).all (fun (a, next) => a.1 < next.1) = true) (ho : Op.lookupswitch.offset ps.toList dflt x.toInt = off) (ht : (pc : Int) + off = (tgt : Int)) (k : AW p l e R s m args below meth c G A N ad sh nL cs sl Q tgt ls st M) : AW p l e R s m args below meth c G A N ad sh nL cs sl Q pc ls (.int x :: st) M :=
  fun H locs la hP hS hl => lv_lookup C0.1 C0.2.1 d hp ho ht (k H locs la hP hS hl)
theorem a_mmax (C0 : Cx p s m args meth c G A N ad cc own nL) {index : Nat} {x y : Int32} (hlink : Cond.methodLink own index Lib.Math.max.name ∈ wg) (hstat : Cond.static Lib.Math.max.name ∈ wg) (hini : Cond.initialized "java/lang/Math" ∈ wg) (hcode : Cond.code Lib.Math.max.name Lib.Math.max.code 2 (some .int) ∈ wg) (hR : 1 ≤ R.frames ∧ (st.map fun v => v.category).sum + 13 ≤ R.locals ∧ cs ≤ R.cells ∧ sl ≤ R.slots) (d : decode cc pc = .ok (.invokestatic index, 3)) (k : AW p l e R s m args below meth c G A N ad sh nL cs sl Q (pc + 3) ls (.int (if x < y then y else x) :: st) M) : AW p l e R s m args below meth c G A N ad sh nL cs sl Q pc ls (.int y :: .int x :: st) M :=
  fun H locs la hP hS hl => va_mmax C0.1 C0.2.1 (C0.2.2.1.trans hl.1.symm) C0.oo (C0.ww _ hlink) (C0.ww _ hstat) (C0.ww _ hini) (C0.ww _ hcode) hR.1 hR.2.1 hR.2.2.1 hR.2.2.2 d (k H locs la hP hS hl)
theorem a_mmin (C0 : Cx p s m args meth c G A N ad cc own nL) {index : Nat} {x y : Int32} (hlink : Cond.methodLink own index Lib.Math.min.name ∈ wg) (hstat : Cond.static Lib.Math.min.name ∈ wg) (hini : Cond.initialized "java/lang/Math" ∈ wg) (hcode : Cond.code Lib.Math.min.name Lib.Math.min.code 2 (some .int) ∈ wg) (hR : 1 ≤ R.frames ∧ (st.map fun v => v.category).sum + 13 ≤ R.locals ∧ cs ≤ R.cells ∧ sl ≤ R.slots) (d : decode cc pc = .ok (.invokestatic index, 3)) (k : AW p l e R s m args below meth c G A N ad sh nL cs sl Q (pc + 3) ls (.int (if y < x then y else x) :: st) M) : AW p l e R s m args below meth c G A N ad sh nL cs sl Q pc ls (.int y :: .int x :: st) M :=
  fun H locs la hP hS hl => va_mmin C0.1 C0.2.1 (C0.2.2.1.trans hl.1.symm) C0.oo (C0.ww _ hlink) (C0.ww _ hstat) (C0.ww _ hini) (C0.ww _ hcode) hR.1 hR.2.1 hR.2.2.1 hR.2.2.2 d (k H locs la hP hS hl)
/-- System.arraycopy between two int rows of the world -/
theorem a_copy (C0 : Cx p s m args meth c G A N ad cc own nL) {index q0 q1 n0 n1 : Nat} {sp dp n : Int32} (n9 : Nat) (hlink : Cond.methodLink own index arraycopyName ∈ wg) (hnat : Cond.native arraycopyName ∈ wg) (hstat : Cond.static arraycopyName ∈ wg) (hini : Cond.initialized "java/lang/System" ∈ wg) (hq0 : q0 < N) (hq1 : q1 < N) (hs0 : sh q0 (M q0) = .inl (G.2.1 0, n0, .inl (M q0))) (hs1 : ∀ f, sh q1 f = .inl (G.2.1 0, n1, .inl f)) (hsp : sp = 0) (hdp : dp = 0) (hn : ¬ n < 0) (hn9 : n.toNatClampNeg = n9) (h0 : n9 ≤ n0) (h1 : n9 ≤ n1)
    (hR : 1 ≤ R.frames ∧ (st.map fun v => v.category).sum + (nativeFrameWords "java/lang/System" "arraycopy" 5 + 11) ≤ R.locals) (d : decode cc pc = .ok (.invokestatic index, 3)) (k : AW p l e R s m args below meth c G A N ad sh nL cs sl Q (pc + 3) ls st (va_up M q1 (va_cpy (M q0) (M q1) 0 0 n9))) : AW p l e R s m args below meth c G A N ad sh nL cs sl Q pc ls (.int n :: .int dp :: .ref (ad q1) :: .int sp :: .ref (ad q0) :: st) M := by
  intro H locs la hP hS hla
  subst hsp
  subst hdp
  have z0 : (0 : Int32).toNatClampNeg = 0 := rfl
  refine va_copyi (D := G.1) (cl := vwCl) C0.1 C0.2.1 (C0.2.2.1.trans hla.1.symm) C0.oo (C0.ww _ hlink) (C0.ww _ hnat) (C0.ww _ hstat) (C0.ww _ hini) C0.kk hP C0.dd hS q0 q1 0 0 (by rw [wC_at hq0, hs0]) (by rw [wC_at hq1, hs1]) rfl rfl rfl (by decide) (by decide) hn (by rw [z0, hn9]; omega) (by rw [z0, hn9]; omega) (fun i hi => rfl) hR.1 hR.2 d (fun H1 locs1 hP1 hD1 hS1 => ?_)
  rw [z0, hn9, wC_set hq1 (hs1 _)] at hP1
  exact k H1 locs1 la hP1 hS1 hla
/-! ends -/
theorem a_iret (C0 : Cx p s m args meth c G A N ad cc own nL) {post : Option Value → WM → Prop} (hr : meth.sig.returnType = some .int) {v : Int32} (d : decode cc pc = .ok (.ireturn, 1)) (h : post (some (.int v)) M) : AW p l e R s m args below meth c G A N ad sh nL 0 0 (MQ below (CQ G N ad sh A post) args s 0 0 A) pc ls [.int v] M :=
  fun H locs la hP hS hl => W.iret C0.1 C0.2.1 hr (fun t ht hW => ⟨⟨_, M, rfl, h, by rw [ht]; exact hP⟩, hS.F ht⟩) hS.2.2 d C0.2.2.2.2.2.1
theorem a_zret (C0 : Cx p s m args meth c G A N ad cc own nL) {post : Option Value → WM → Prop} {ty : FieldType} (hr : meth.sig.returnType = some ty) {v : Int32} (hn : narrow ty (.int v) = .int v) (d : decode cc pc = .ok (.ireturn, 1)) (h : post (some (.int v)) M) : AW p l e R s m args below meth c G A N ad sh nL 0 0 (MQ below (CQ G N ad sh A post) args s 0 0 A) pc ls [.int v] M :=
  fun H locs la hP hS hl => W.zret C0.1 C0.2.1 hr hn (fun t ht hW => ⟨⟨_, M, rfl, h, by rw [ht]; exact hP⟩, hS.F ht⟩) hS.2.2 d C0.2.2.2.2.2.1
theorem a_lret (C0 : Cx p s m args meth c G A N ad cc own nL) {post : Option Value → WM → Prop} (hr : meth.sig.returnType = some .long) {v : Int64} (d : decode cc pc = .ok (.lreturn, 1)) (h : post (some (.long v)) M) : AW p l e R s m args below meth c G A N ad sh nL 0 0 (MQ below (CQ G N ad sh A post) args s 0 0 A) pc ls [.long v] M :=
  fun H locs la hP hS hl => W.lret C0.1 C0.2.1 hr (fun t ht hW => ⟨⟨_, M, rfl, h, by rw [ht]; exact hP⟩, hS.F ht⟩) hS.2.2 d C0.2.2.2.2.2.1
theorem a_vret (C0 : Cx p s m args meth c G A N ad cc own nL) {post : Option Value → WM → Prop} (hr : meth.sig.returnType = none) (d : decode cc pc = .ok (.return_, 1)) (h : post none M) : AW p l e R s m args below meth c G A N ad sh nL 0 0 (MQ below (CQ G N ad sh A post) args s 0 0 A) pc ls [] M :=
  fun H locs la hP hS hl => W.vret C0.1 C0.2.1 hr (fun t ht hW => ⟨⟨_, M, rfl, h, by rw [ht]; exact hP⟩, hS.F ht⟩) hS.2.2 d C0.2.2.2.2.2.1
/-! a callee's world within the caller's -/
def EM (N N' : Nat) (ad ad' : Nat → Nat) (sh sh' : SH) (M Mc : WM) (F : WM → WM) : Prop := ∃ ι : Nat → Nat, (∀ k, k < N' → ι k < N ∧ ad' k = ad (ι k) ∧ Mc k = M (ι k) ∧ ∀ f, sh' k f = sh (ι k) f) ∧ (∀ j k, j < N' → k < N' → ι j = ι k → j = k) ∧ (∀ u : WM, (∀ k, k < N' → F u (ι k) = u k) ∧ ∀ i, i < N → (∀ k, k < N' → ι k ≠ i) → F u i = M i)
theorem EM.refl : EM N N ad ad sh sh M M (fun u => u) := ⟨id, fun k h => ⟨h, rfl, rfl, fun _ => rfl⟩, fun _ _ _ _ h => h, fun u => ⟨fun k _ => rfl, fun i hi h => absurd rfl (h i hi)⟩⟩
theorem EM.nil {ad' : Nat → Nat} {sh' : SH} {Mc : WM} : EM N 0 ad ad' sh sh' M Mc (fun _ => M) := ⟨id, fun k h => absurd h (Nat.not_lt_zero k), fun j _ h => absurd h (Nat.not_lt_zero j), fun u => ⟨fun k h => absurd h (Nat.not_lt_zero k), fun i hi h => rfl⟩⟩
def emb (b n : Nat) (M u : WM) : WM := fun i => if b ≤ i ∧ i < b + n then u (i - b) else M i
theorem EM.block {N' : Nat} {sh' : SH} (b : Nat) (hb : b + N' ≤ N) (hsh : ∀ k, k < N' → ∀ f, sh' k f = sh (b + k) f) : EM N N' ad (fun k => ad (b + k)) sh sh' M (fun k => M (b + k)) (emb b N' M) := by
  refine ⟨fun k => b + k, fun k h => ⟨by show b + k < N; omega, rfl, rfl, hsh k h⟩, fun j k _ _ h => by have h : b + j = b + k := h; omega, fun u => ⟨fun k h => ?_, fun i hi h => ?_⟩⟩
  · show emb b N' M u (b + k) = u k
    unfold emb
    rw [if_pos (by omega)]
    congr 1
    omega
  · unfold emb
    rw [if_neg]
    intro hh
    exact h (i - b) (by omega) (by show b + (i - b) = i; omega)
def emb2 (b n b2 n2 : Nat) (M u : WM) : WM := fun i => if b ≤ i ∧ i < b + n then u (i - b) else if b2 ≤ i ∧ i < b2 + n2 then u (n + (i - b2)) else M i
def io2 (b n b2 : Nat) : Nat → Nat := fun k => if k < n then b + k else b2 + (k - n)
theorem EM.block2 {n n2 : Nat} {sh' : SH} (b b2 : Nat) (hb : b + n ≤ N) (hb2 : b2 + n2 ≤ N) (hd : b + n ≤ b2 ∨ b2 + n2 ≤ b) (hsh : ∀ k, k < n + n2 → ∀ f, sh' k f = sh (io2 b n b2 k) f) : EM N (n + n2) ad (fun k => ad (io2 b n b2 k)) sh sh' M (fun k => M (io2 b n b2 k)) (emb2 b n b2 n2 M) := by
  refine ⟨io2 b n b2, fun k h => ⟨?_, rfl, rfl, hsh k h⟩, fun j k h1 h2 h => ?_, fun u => ⟨fun k h => ?_, fun i hi h => ?_⟩⟩
  · unfold io2
    split <;> omega
  · unfold io2 at h
    split at h <;> split at h <;> omega
  · unfold emb2 io2
    by_cases hk : k < n
    · rw [if_pos hk, if_pos (by omega)]
      congr 1
      omega
    · rw [if_neg hk, if_neg (by omega), if_pos (by omega)]
      congr 1
      omega
  · unfold emb2
    rw [if_neg, if_neg]
    · intro hh
      refine h (n + (i - b2)) (by omega) ?_
      unfold io2
      rw [if_neg (by omega)]
      omega
    · intro hh
      refine h (i - b) (by omega) ?_
      unfold io2
      rw [if_pos (by omega)]
      omega
theorem em_world {N' : Nat} {ad' : Nat → Nat} {sh' : SH} {Mc : WM} {F : WM → WM} (hE : EM N N' ad ad' sh sh' M Mc F) {H : Heap} (hP : va_P G.1 vwCl (wC N ad sh M) H) : va_P G.1 vwCl (wC N' ad' sh' Mc) H := by
  obtain ⟨ι, h1, h2, h3⟩ := hE
  refine wC_P fun k hk => ?_
  obtain ⟨a1, a2, a3, a4⟩ := h1 k hk
  have := hP (ι k) _ (wC_at a1)
  rw [a2, a3, a4]
  exact this
theorem em_apart {N' : Nat} {ad' : Nat → Nat} {sh' : SH} {Mc : WM} {F : WM → WM} (hE : EM N N' ad ad' sh sh' M Mc F) (hD : ∀ i j : Nat, i < N → j < N → ad i = ad j → i = j) : va_D (fun _ => True) (wC N' ad' sh' Mc) := by
  obtain ⟨ι, h1, h2, h3⟩ := hE
  refine wC_D (fun i j hi hj h => ?_) (fun _ _ => trivial)
  rw [(h1 i hi).2.1, (h1 j hj).2.1] at h
  exact h2 i j hi hj (hD _ _ (h1 i hi).1 (h1 j hj).1 h)
theorem em_free {N' : Nat} {ad' : Nat → Nat} {sh' : SH} {Mc : WM} {F : WM → WM} (hE : EM N N' ad ad' sh sh' M Mc F) (hA1 : ∀ i : Nat, i < N → A (ad i)) (hA2 : ∀ q : Nat, s.heap.size ≤ q → A q) {H : Heap} (hH : s.heap.size ≤ H.size) : ∀ q, va_A (wC N' ad' sh' Mc) H.size q → A q := by
  obtain ⟨ι, h1, h2, h3⟩ := hE
  intro q h
  rcases h with ⟨k, x, h⟩ | h
  · obtain ⟨hk, e1⟩ := wC_inv h
    have e2 : q = ad' k := congrArg Prod.fst e1
    rw [e2, (h1 k hk).2.1]
    exact hA1 _ (h1 k hk).1
  · exact hA2 q (Nat.le_trans hH h)
theorem em_back {N' : Nat} {ad' : Nat → Nat} {sh' : SH} {Mc : WM} {F : WM → WM} (hE : EM N N' ad ad' sh sh' M Mc F) (hD : ∀ i j : Nat, i < N → j < N → ad i = ad j → i = j) {H H1 : Heap} {u : WM} (hP : va_P G.1 vwCl (wC N ad sh M) H) (hP1 : va_P G.1 vwCl (wC N' ad' sh' u) H1) (hk : ∀ q : Nat, q < H.size → ¬ va_A (wC N' ad' sh' Mc) H.size q → H1[q]? = H[q]?) : va_P G.1 vwCl (wC N ad sh (F u)) H1 := by
  obtain ⟨ι, h1, h2, h3⟩ := hE
  refine wC_P fun i hi => ?_
  by_cases hx : ∃ k, k < N' ∧ ι k = i
  · obtain ⟨k, hk1, rfl⟩ := hx
    have := hP1 k _ (wC_at hk1)
    rw [(h1 k hk1).2.1, (h1 k hk1).2.2.2] at this
    rw [(h3 u).1 k hk1]
    exact this
  · have hx : ∀ k, k < N' → ι k ≠ i := fun k a b => hx ⟨k, a, b⟩
    rw [(h3 u).2 i hi hx]
    have h0 := hP i _ (wC_at hi)
    have hlt : ad i < H.size := h0.lt
    refine h0.kept (hk _ hlt ?_)
    rintro (⟨k, x, h⟩ | h)
    · obtain ⟨hk1, e1⟩ := wC_inv h
      have e2 : ad i = ad' k := congrArg Prod.fst e1
      rw [(h1 k hk1).2.1] at e2
      exact hx k hk1 (hD _ _ (h1 k hk1).1 hi e2.symm)
    · omega
/-- what stands at a call's start and what the callee keeps give what stands behind it -/
theorem a_over {A1 : Nat → Prop} {H0 : Heap} {T0 T1 : State} {locs L : List Loc} (hS : va_S A H0 T0.heap locs) (hF : va_F A1 T0 T1) (h1 : ∀ q, A1 q → A q) (hL : ∀ q ∈ L, A1 q.base) : va_S A H0 T1.heap (locs ++ L) := by
  obtain ⟨s1, s2, s3⟩ := hS
  obtain ⟨f1, f2⟩ := hF
  refine ⟨by omega, fun q hq hn => ?_, fun q hq => (List.mem_append.mp hq).elim (s3 q) fun h => h1 _ (hL q h)⟩
  have := f2 q (by omega) fun y => hn (h1 q y)
  exact this.trans (s2 q hq hn)
theorem a_fin {N' : Nat} {ad' : Nat → Nat} {sh' : SH} {A1 : Nat → Prop} {post : Option Value → WM → Prop} {H : Heap} {locs : List Loc} {la : Array Slot} {st0 rest : List Value} {av : Array Value} (hr : va_Run p l e R s m args below meth c H locs cs sl 0 0 (F0 m pc la st0) rest (CQ G N' ad' sh' A1 post av) A1) (hS : va_S A s.heap H locs) (hA1 : ∀ q, A1 q → A q)
    (kk : ∀ (v : Option Value) (u : WM) (H1 : Heap) (locs1 : List Loc), post v u → va_P G.1 vwCl (wC N' ad' sh' u) H1 → (∀ q : Nat, q < H.size → ¬ A1 q → H1[q]? = H[q]?) → va_S A s.heap H1 locs1 → W p l e R s m args below meth c H1 locs1 cs sl Q (F0 m (pc + 3) la (v.toList ++ rest))) : W p l e R s m args below meth c H locs cs sl Q (F0 m pc la st0) := by
  rintro T rfl X
  obtain ⟨_, u0, u1, T1, L, e0, X1, hL, e1, -, ⟨⟨v, u, hv, hp, hb⟩, hF⟩, hgo⟩ := hr T rfl X
  obtain rfl := Outcome.returned.inj hv
  have hF1 : va_F A1 T T1 := by
    unfold va_F at hF ⊢
    rw [← e0, e1]
    exact hF
  obtain ⟨t, ht, hQ⟩ := kk _ u T1.heap (locs ++ L) hp (e1 ▸ hb) hF1.2 (a_over hS hF1 hA1 hL) T1 rfl X1
  exact ⟨t, hgo t ht, hQ⟩
theorem goodIn_wsm {y : MethodName} {cb : ByteArray} {maxL : Nat} {ret : Option FieldType} (h : Cond.code y cb maxL ret ∈ wg) : GoodIn wg (wsm y cb maxL ret) := by
  intro w hw
  rcases List.mem_cons.mp hw with rfl | hw
  · exact ⟨h, good_of_word (wg_good _ h)⟩
  · exact ⟨hw, good_of_word (wg_good _ hw)⟩
theorem ct_pre {N' : Nat} {ad' : Nat → Nat} {sh' : SH} {Mc : WM} {F : WM → WM} (C0 : Cx p s m args meth c G A N ad cc own nL) (hE : EM N N' ad ad' sh sh' M Mc F) {H : Heap} {locs : List Loc} (hP : va_P G.1 vwCl (wC N ad sh M) H) (hS : va_S A s.heap H locs) (av : List Value) :
    FrameBlind (va_Pc av (fun U => U.heap.size = H.size ∧ va_P G.1 vwCl (wC N' ad' sh' Mc) U.heap ∧ va_K G.1 vwCl (tysG G) U ∧ va_D (fun _ => True) (wC N' ad' sh' Mc) ∧ NW G U ∧ SF G (va_A (wC N' ad' sh' Mc) H.size) U U.heap)) ∧ ∀ U : State, U.heap = H → s.WarmedH U.vm → va_Pc av (fun U => U.heap.size = H.size ∧ va_P G.1 vwCl (wC N' ad' sh' Mc) U.heap ∧ va_K G.1 vwCl (tysG G) U ∧ va_D (fun _ => True) (wC N' ad' sh' Mc) ∧ NW G U ∧ SF G (va_A (wC N' ad' sh' Mc) H.size) U U.heap) av.toArray U := by
  refine ⟨fun a U g mk q => ?_, fun U hU hW => ?_⟩
  · obtain ⟨q0, q1, qP, qK, qD, qN, qS⟩ := q
    exact ⟨q0, q1, qP, va_K.moved (u := U) (U := U.calling g mk a) (Vm.Alike.refl U.vm) qK, qD, qN.same rfl, SF.moved (u := U) (U := U.calling g mk a) (Vm.Alike.refl U.vm) qS⟩
  · refine ⟨rfl, by rw [hU], by rw [hU]; exact em_world hE hP, va_K.moved hW.alike C0.kk, em_apart hE C0.2.2.2.2.2.2.2.1, C0.nw.warm hW, ?_⟩
    rw [hU]
    exact ((C0.sf.kept hS.2.1).moved hW.alike).narrow (em_free hE C0.2.2.2.2.2.2.2.2.1 C0.2.2.2.2.2.2.2.2.2.1 hS.1)
theorem a_callV {N' : Nat} {ad' : Nat → Nat} {sh' : SH} {Mc : WM} {F : WM → WM} {y : MethodName} {cb : ByteArray} {maxL k' index : Nat} {ret : Option FieldType} {post : Option Value → WM → Prop} {As : List Value} {ci n9 : Nat} {C : String} {T9 : u_T} {fs : List Value} {qb : Nat} (rest : List Value) (n : Nat) (C0 : Cx p s m args meth c G A N ad cc own nL) (hE : EM N N' ad ad' sh sh' M Mc F) (hC : CT l G y cb maxL ret k' (.ref (ad qb) :: As) N' ad' sh' Mc post)
    (hcode : Cond.code y cb maxL ret ∈ wg) (hlink : Cond.methodLink own index y ∈ wg) (him : Cond.instanceMethod y ∈ wg) (hse : Cond.selects C y y ∈ wg) (hini : Cond.initialized C ∈ wg) (hy : y.cls = C ∧ y.cls ≠ "java/lang/invoke/MethodHandle" ∧ y.cls ≠ "java/lang/invoke/VarHandle" ∧ (parseMethodDescriptor y.desc).map (fun d => d.parameters.length) = some n) (hc : vwCl[ci]? = some (C, T9, n9)) (hq : qb < N) (hs : sh qb (M qb) = .inr (ci, fs))
    (hR : k' + 1 ≤ R.frames ∧ 8 + (maxL + 11) + 64 * k' ≤ R.locals ∧ cs ≤ R.cells ∧ sl ≤ R.slots) (hn : As.length = n) (hst : st = As.reverse ++ .ref (ad qb) :: rest) (hW : (rest.map fun v => v.category).sum ≤ 8) (d : decode cc pc = .ok (.invokevirtual index, 3)) (kk : ∀ v u, post v u → AW p l e R s m args below meth c G A N ad sh nL cs sl Q (pc + 3) ls (v.toList ++ rest) (F u)) : AW p l e R s m args below meth c G A N ad sh nL cs sl Q pc ls st M := by
  intro H locs la hP hS hl
  obtain ⟨f1, f2⟩ := ct_pre C0 hE hP hS (.ref (ad qb) :: As)
  have hrc : ∃ cell : Cell, H[ad qb]? = some cell ∧ cell.vm.isStatics = false ∧ s.vm.findClass C = some cell.cls := va_recv C0.kk hP hc (by rw [wC_at hq, hs])
  refine a_fin (va_runV (Ts := wg) (C := C) (rm := rmk k') (As := As) (rest := rest) ⟨C0.1, C0.2.1, C0.2.2.1, C0.oo, C0.ww⟩ (hC H.size) (cwV n C0.ww (fun w hw => ?_) rfl rfl rfl hy ⟨hR.1, hR.2.1⟩) ⟨f1, hrc, f2⟩ rfl hn hl.1 hst (lv_room hW) d ⟨by omega, by omega⟩) hS (em_free hE C0.2.2.2.2.2.2.2.2.1 C0.2.2.2.2.2.2.2.2.2.1 hS.1) (fun v u H1 locs1 hp hP1 hk hS1 => ?_)
  · rcases List.mem_append.mp hw with h | h
    · simp only [List.mem_cons, List.not_mem_nil, or_false] at h
      rcases h with rfl | rfl | rfl | rfl
      · exact ⟨hlink, good_of_word (wg_good _ hlink)⟩
      · exact ⟨him, good_of_word (wg_good _ him)⟩
      · exact ⟨hse, good_of_word (wg_good _ hse)⟩
      · exact ⟨hini, good_of_word (wg_good _ hini)⟩
    · exact goodIn_wsm hcode w h
  · exact kk v u hp H1 locs1 la (em_back hE C0.2.2.2.2.2.2.2.1 hP hP1 hk) hS1 hl
theorem a_callS {N' : Nat} {ad' : Nat → Nat} {sh' : SH} {Mc : WM} {F : WM → WM} {y : MethodName} {cb : ByteArray} {maxL k' index : Nat} {ret : Option FieldType} {post : Option Value → WM → Prop} {As : List Value} (rest : List Value) (n : Nat) (C0 : Cx p s m args meth c G A N ad cc own nL) (hE : EM N N' ad ad' sh sh' M Mc F) (hC : CT l G y cb maxL ret k' As N' ad' sh' Mc post)
    (hcode : Cond.code y cb maxL ret ∈ wg) (hlink : Cond.methodLink own index y ∈ wg) (hstt : Cond.static y ∈ wg) (hini : Cond.initialized y.cls ∈ wg) (hy : y.cls ≠ "java/lang/invoke/MethodHandle" ∧ y.cls ≠ "java/lang/invoke/VarHandle" ∧ (parseMethodDescriptor y.desc).map (fun d => d.parameters.length) = some n)
    (hR : k' + 1 ≤ R.frames ∧ 8 + (maxL + 11) + 64 * k' ≤ R.locals ∧ cs ≤ R.cells ∧ sl ≤ R.slots) (hn : As.length = n) (hst : st = As.reverse ++ rest) (hW : (rest.map fun v => v.category).sum ≤ 8) (d : decode cc pc = .ok (.invokestatic index, 3)) (kk : ∀ v u, post v u → AW p l e R s m args below meth c G A N ad sh nL cs sl Q (pc + 3) ls (v.toList ++ rest) (F u)) : AW p l e R s m args below meth c G A N ad sh nL cs sl Q pc ls st M := by
  intro H locs la hP hS hl
  obtain ⟨f1, f2⟩ := ct_pre C0 hE hP hS As
  refine a_fin (va_runS (Ts := wg) (rm := rmk k') (As := As) (rest := rest) ⟨C0.1, C0.2.1, C0.2.2.1, C0.oo, C0.ww⟩ (hC H.size) ⟨callB_of n C0.ww (goodIn_wsm hcode) rfl rfl rfl (C0.ww _ hini) (C0.ww _ hlink) hy ⟨hR.1, hR.2.1⟩, C0.ww _ hstt⟩ ⟨f1, f2⟩ rfl hn hl.1 hst (lv_room hW) d ⟨by omega, by omega⟩) hS (em_free hE C0.2.2.2.2.2.2.2.2.1 C0.2.2.2.2.2.2.2.2.2.1 hS.1) (fun v u H1 locs1 hp hP1 hk hS1 => ?_)
  exact kk v u hp H1 locs1 la (em_back hE C0.2.2.2.2.2.2.2.1 hP hP1 hk) hS1 hl
theorem a_callSN {N' : Nat} {ad' : Nat → Nat} {sh' : SH} {Mc : WM} {F : WM → WM} {y : MethodName} {cb : ByteArray} {maxL k' index : Nat} {ret : Option FieldType} {post : Option Value → WM → Prop} {As : List Value} {host : String} (rest : List Value) (n : Nat) (C0 : Cx p s m args meth c G A N ad cc own nL) (hE : EM N N' ad ad' sh sh' M Mc F) (hC : CT l G y cb maxL ret k' As N' ad' sh' Mc post)
    (hcode : Cond.code y cb maxL ret ∈ wg) (hlink : va_Nw (.methodLinkNest own index y host) s) (hstt : Cond.static y ∈ wg) (hini : Cond.initialized y.cls ∈ wg) (hy : y.cls ≠ "java/lang/invoke/MethodHandle" ∧ y.cls ≠ "java/lang/invoke/VarHandle" ∧ (parseMethodDescriptor y.desc).map (fun d => d.parameters.length) = some n)
    (hR : k' + 1 ≤ R.frames ∧ 8 + (maxL + 11) + 64 * k' ≤ R.locals ∧ cs ≤ R.cells ∧ sl ≤ R.slots) (hn : As.length = n) (hst : st = As.reverse ++ rest) (hW : (rest.map fun v => v.category).sum ≤ 8) (d : decode cc pc = .ok (.invokestatic index, 3)) (kk : ∀ v u, post v u → AW p l e R s m args below meth c G A N ad sh nL cs sl Q (pc + 3) ls (v.toList ++ rest) (F u)) : AW p l e R s m args below meth c G A N ad sh nL cs sl Q pc ls st M := by
  intro H locs la hP hS hl
  obtain ⟨f1, f2⟩ := ct_pre C0 hE hP hS As
  refine a_fin (va_runSN (Ts := wg) (rm := rmk k') (As := As) (rest := rest) ⟨C0.1, C0.2.1, C0.2.2.1, C0.oo, C0.ww⟩ (hC H.size) ⟨va_cnB n C0.ww (goodIn_wsm hcode) rfl rfl rfl hlink (C0.ww _ hini) hy ⟨hR.1, hR.2.1⟩, C0.ww _ hstt, trivial⟩ ⟨f1, f2⟩ rfl hn hl.1 hst (lv_room hW) d ⟨by omega, by omega⟩) hS (em_free hE C0.2.2.2.2.2.2.2.2.1 C0.2.2.2.2.2.2.2.2.2.1 hS.1) (fun v u H1 locs1 hp hP1 hk hS1 => ?_)
  exact kk v u hp H1 locs1 la (em_back hE C0.2.2.2.2.2.2.2.1 hP hP1 hk) hS1 hl
/-! what comes behind a call, by what its contract says -/
theorem em_self {N' : Nat} {ad' : Nat → Nat} {sh' : SH} {Mc : WM} {F : WM → WM} (hE : EM N N' ad ad' sh sh' M Mc F) : ∀ i, i < N → F Mc i = M i := by
  obtain ⟨ι, h1, h2, h3⟩ := hE
  intro i hi
  by_cases hx : ∃ k, k < N' ∧ ι k = i
  · obtain ⟨k, hk1, rfl⟩ := hx
    rw [(h3 Mc).1 k hk1, (h1 k hk1).2.2.1]
  · exact (h3 Mc).2 i hi fun k a b => hx ⟨k, a, b⟩
theorem k_ro {N' : Nat} {ad' : Nat → Nat} {sh' : SH} {Mc : WM} {F : WM → WM} {x : Int32} {rest : List Value} (hE : EM N N' ad ad' sh sh' M Mc F) (k : AW p l e R s m args below meth c G A N ad sh nL cs sl Q pc ls (.int x :: rest) M) : ∀ v u, PI (fun r u => r = x ∧ u = Mc) v u → AW p l e R s m args below meth c G A N ad sh nL cs sl Q pc ls (v.toList ++ rest) (F u) := by
  rintro _ u ⟨r, rfl, rfl, rfl⟩
  exact AW.congr (fun i hi => by rw [em_self hE i hi]) k
theorem k_lo {N' : Nat} {ad' : Nat → Nat} {sh' : SH} {Mc : WM} {F : WM → WM} {x : Int64} {rest : List Value} (hE : EM N N' ad ad' sh sh' M Mc F) (k : AW p l e R s m args below meth c G A N ad sh nL cs sl Q pc ls (.long x :: rest) M) : ∀ v u, PL (fun r u => r = x ∧ u = Mc) v u → AW p l e R s m args below meth c G A N ad sh nL cs sl Q pc ls (v.toList ++ rest) (F u) := by
  rintro _ u ⟨r, rfl, rfl, rfl⟩
  exact AW.congr (fun i hi => by rw [em_self hE i hi]) k
theorem k_de {F : WM → WM} {x : Int32} {w : WM} {rest : List Value} (k : AW p l e R s m args below meth c G A N ad sh nL cs sl Q pc ls (.int x :: rest) (F w)) : ∀ v u, PI (fun r u => r = x ∧ u = w) v u → AW p l e R s m args below meth c G A N ad sh nL cs sl Q pc ls (v.toList ++ rest) (F u) := by
  rintro _ u ⟨r, rfl, rfl, rfl⟩
  exact k
theorem k_vo {F : WM → WM} {w : WM} {rest : List Value} (k : AW p l e R s m args below meth c G A N ad sh nL cs sl Q pc ls rest (F w)) : ∀ v u, PV (fun u => u = w) v u → AW p l e R s m args below meth c G A N ad sh nL cs sl Q pc ls (v.toList ++ rest) (F u) := by
  rintro _ u ⟨rfl, rfl⟩
  exact k
theorem k_i {F : WM → WM} {q : Int32 → WM → Prop} {rest : List Value} (k : ∀ r u, q r u → AW p l e R s m args below meth c G A N ad sh nL cs sl Q pc ls (.int r :: rest) (F u)) : ∀ v u, PI q v u → AW p l e R s m args below meth c G A N ad sh nL cs sl Q pc ls (v.toList ++ rest) (F u) := by
  rintro _ u ⟨r, rfl, h⟩
  exact k r u h
theorem k_v {F : WM → WM} {q : WM → Prop} {rest : List Value} (k : ∀ u, q u → AW p l e R s m args below meth c G A N ad sh nL cs sl Q pc ls rest (F u)) : ∀ v u, PV q v u → AW p l e R s m args below meth c G A N ad sh nL cs sl Q pc ls (v.toList ++ rest) (F u) := by
  rintro _ u ⟨rfl, h⟩
  exact k u h
end AM2
theorem CT.of {l : Launch} {G : GE} {N : Nat} {ad : Nat → Nat} {sh : SH} {M : WM} {y : MethodName} {cb : ByteArray} {maxL k : Nat} {ret : Option FieldType} {av : List Value} {post : Option Value → WM → Prop} {own : String} (hy : plainName y.cls = true) (hown : y.cls = own) (hlen : (lg_sl av).length ≤ maxL)
    (h : ∀ (p : Program) (e : Env) (s : State) (m : MethodId) (args : Array Value) (below : List Frame) (meth : Method) (c : Code) (A : Nat → Prop), Cx p s m args meth c G A N ad cb own maxL → meth.sig.returnType = ret → AW p l e (rmk k) s m args below meth c G A N ad sh maxL 0 0 (MQ below (CQ G N ad sh A post) args s 0 0 A) 0 (lv_args 0 av) [] M) : CT l G y cb maxL ret k av N ad sh M post := by
  intro sz
  refine Met.ofW (cc := cb) (maxL := maxL) (ret := ret) hy rfl ?_
  intro p e s m args below meth c s₁ B hml hv
  obtain ⟨rfl, hsz, hP, hK, hD0, hN, hSF⟩ := hv
  subst hsz
  have hts := atoms_spec (ws := wsm y cb maxL ret) B.pre
  have hinj : ∀ i j : Nat, i < N → j < N → ad i = ad j → i = j := fun i j hi hj e => hD0.1 i j _ _ (wC_at hi) (wC_at hj) e
  have hA1 : ∀ i : Nat, i < N → va_A (wC N ad sh M) s.heap.size (ad i) := fun i hi => va_A.in (wC_at hi)
  have hA2 : ∀ q : Nat, s.heap.size ≤ q → va_A (wC N ad sh M) s.heap.size q := fun q h => Or.inr h
  have hl := lv_entry av (n := maxL) hlen
  rw [lg_entry_eq]
  generalize (lg_sl av ++ List.replicate (maxL - (lg_sl av).length) Slot.unset).toArray = la at hl ⊢
  exact h p e s m _ below meth c (va_A (wC N ad sh M) s.heap.size) ⟨B.exec, B.bytes, hml, by rw [← hown]; exact findClass_of_methodNamed B.named, fun w hw => hts w (List.mem_cons_of_mem _ hw), B.notSynchronized, hK, hinj, hA1, hA2, hN, hSF⟩ B.returns s.heap [] la hP va_S.rf hl

theorem hRk {k' maxL : Nat} {R : Room} {cs sl : Nat} (h : (Nat.ble (k' + 1) R.frames && (Nat.ble (8 + (maxL + 11) + 64 * k') R.locals && (Nat.ble cs R.cells && Nat.ble sl R.slots))) = true) : k' + 1 ≤ R.frames ∧ 8 + (maxL + 11) + 64 * k' ≤ R.locals ∧ cs ≤ R.cells ∧ sl ≤ R.slots := by
  simp only [Bool.and_eq_true] at h
  exact ⟨Nat.le_of_ble_eq_true h.1, Nat.le_of_ble_eq_true h.2.1, Nat.le_of_ble_eq_true h.2.2.1, Nat.le_of_ble_eq_true h.2.2.2⟩
theorem lt_b {a b : Nat} (h : Nat.ble (a + 1) b = true) : a < b := Nat.le_of_ble_eq_true h
theorem le_b {a b : Nat} (h : Nat.ble a b = true) : a ≤ b := Nat.le_of_ble_eq_true h
theorem vq {i : Int32} {n : Nat} (h : decide (¬ (i < 0 ∨ n ≤ i.toNatClampNeg)) = true) : vp_in i n := by
  unfold vp_in
  exact of_decide_eq_true h
def bI (p : Prop) [Decidable p] : Int32 := if p then 1 else 0
abbrev ix (i : Int32) : Nat := i.toNatClampNeg
theorem bI_nar (p : Prop) [Decidable p] : narrow .boolean (.int (bI p)) = .int (bI p) := by
  unfold bI
  split <;> rfl
theorem bI_t {p : Prop} [Decidable p] (h : p) : bI p = 1 := if_pos h
theorem bI_f {p : Prop} [Decidable p] (h : ¬ p) : bI p = 0 := if_neg h
theorem bI_0 {p : Prop} [Decidable p] (h : bI p = 0) : ¬ p := fun q => by rw [bI_t q] at h; exact absurd h (by decide)
theorem bI_1 {p : Prop} [Decidable p] (h : ¬ bI p = 0) : p := Classical.byContradiction fun q => h (bI_f q)
section AM3
variable {p : Program} {l : Launch} {e : Env} {R : Room} {s : State} {m : MethodId} {args : Array Value} {below : List Frame} {meth : Method} {c : Code} {G : GE} {A : Nat → Prop} {N : Nat} {ad : Nat → Nat} {sh : SH} {nL cs sl : Nat} {Q : State → Prop} {cc : ByteArray} {own : String} {pc : Nat} {ls : LV} {st : List Value} {M : WM}
theorem AW.lo {ls2 : LV} (h : ls = ls2) (k : AW p l e R s m args below meth c G A N ad sh nL cs sl Q pc ls2 st M) : AW p l e R s m args below meth c G A N ad sh nL cs sl Q pc ls st M := h ▸ k
theorem AW.sub {ls2 : LV} (ks : List Nat) (h : lv_pick ls ks = ls2) (k : AW p l e R s m args below meth c G A N ad sh nL cs sl Q pc ls2 st M) : AW p l e R s m args below meth c G A N ad sh nL cs sl Q pc ls st M := fun H locs la hP hS hl => k H locs la hP hS (lv_sub hl ks h)
theorem a_if_eqb (C0 : Cx p s m args meth c G A N ad cc own nL) {x : Prop} [Decidable x] {off : Int} (tgt : Nat) (d : decode cc pc = .ok (.ifCond .eq off, 3)) (ht : (pc : Int) + off = (tgt : Int)) (kt : ¬ x → AW p l e R s m args below meth c G A N ad sh nL cs sl Q tgt ls st M) (kf : x → AW p l e R s m args below meth c G A N ad sh nL cs sl Q (pc + 3) ls st M) : AW p l e R s m args below meth c G A N ad sh nL cs sl Q pc ls (.int (bI x) :: st) M := a_if_eq C0 tgt d ht (fun h => kt (bI_0 h)) (fun h => kf (bI_1 h))
theorem a_if_neb (C0 : Cx p s m args meth c G A N ad cc own nL) {x : Prop} [Decidable x] {off : Int} (tgt : Nat) (d : decode cc pc = .ok (.ifCond .ne off, 3)) (ht : (pc : Int) + off = (tgt : Int)) (kt : x → AW p l e R s m args below meth c G A N ad sh nL cs sl Q tgt ls st M) (kf : ¬ x → AW p l e R s m args below meth c G A N ad sh nL cs sl Q (pc + 3) ls st M) : AW p l e R s m args below meth c G A N ad sh nL cs sl Q pc ls (.int (bI x) :: st) M := a_if_ne C0 tgt d ht (fun h => kt (bI_1 h)) (fun h => kf (bI_0 h))
end AM3
