
/-! ===== new int[10][3] at the machine. The whole heap behind i rows is told by ONE function of the address (gk_at); one relation (GK) says where the machine stands; the loop is counted ===== -/
def gk_out (cA : ClassId) (h i : Nat) : Cell := arrV cA 10 (fun j => if j < i then .ref (h + 1 + j) else .null)
def gk_in (cI : ClassId) : Cell := arrV cI 3 (fun _ => .int 0)
/-- the cell at an address, when i rows stand -/
def gk_at (H : Heap) (cA cI : ClassId) (i a : Nat) : Option Cell :=
  if a < H.size then H[a]? else if a = H.size then some (gk_out cA H.size i) else if a ≤ H.size + i then some (gk_in cI) else none
theorem gk_outer (H : Heap) (cA cI : ClassId) (i : Nat) : gk_at H cA cI i H.size = some (gk_out cA H.size i) := by
  unfold gk_at
  rw [if_neg (Nat.lt_irrefl _), if_pos rfl]
theorem gk_old {H : Heap} {a : Nat} (cA cI : ClassId) (i : Nat) (h : a < H.size) : gk_at H cA cI i a = H[a]? := if_pos h
theorem gk_inner (H : Heap) (cA cI : ClassId) {i j : Nat} (h : j < i) : gk_at H cA cI i (H.size + 1 + j) = some (gk_in cI) := by
  unfold gk_at
  rw [if_neg (by omega), if_neg (by omega), if_pos (by omega)]
theorem gk_fill (cA : ClassId) (h i : Nat) : (gk_out cA h i).setSlot i (.ref (h + 1 + i)) = gk_out cA h (i + 1) := by
  show (arrV cA 10 _).setSlot i _ = arrV cA 10 _
  rw [arrV_store]
  refine congrArg (arrV cA 10) (funext fun j => ?_)
  show (if j = i then _ else if j < i then _ else _) = _
  rcases Nat.lt_trichotomy j i with h1 | h1 | h1
  · rw [if_neg (by omega), if_pos h1, if_pos (by omega)]
  · rw [if_pos h1, if_pos (by omega), h1]
  · rw [if_neg (by omega), if_neg (by omega), if_neg (by omega)]
/-- one row more, at any address: a cell behind the others, and one slot of the outer one -/
theorem gk_more (H K : Heap) (cA cI : ClassId) (i : Nat) (hz : K.size = H.size + 1 + i) (hK : ∀ a : Nat, K[a]? = gk_at H cA cI i a) (a : Nat) :
    ((K.push (gk_in cI)).setIfInBounds H.size (gk_out cA H.size (i + 1)))[a]? = gk_at H cA cI (i + 1) a := by
  rw [Array.getElem?_setIfInBounds, Array.getElem?_push, hK, Array.size_push, hz]
  unfold gk_at
  repeat' split
  all_goals first | rfl | omega
/-- what the walk keeps: a state with the frame g on top, its heap by gk_at, its room by the count of rows -/
def GK (p : Program) (l : Launch) (e : Env) (R : Room) (s : State) (m : MethodId) (args : Array Value) (below : List Frame) (meth : Method) (c : Code) (V : State) (locs : List Loc) (cells slots : Nat) (g : JFrame) (cA cI : ClassId) (i : Nat) (S : State) : Prop :=
  ∃ (U : State) (L : List Loc), S = U.setTop g ∧ Stand p l e R s m args below meth c U (locs ++ L) (cells + (1 + i)) (slots + (10 + 3 * i)) ∧ (∀ q ∈ L, q.base = V.heap.size) ∧ U.vm = V.vm ∧ U.heap.size = V.heap.size + 1 + i ∧ ∀ a : Nat, U.heap[a]? = gk_at V.heap cA cI i a
/-- a loop over the numbers from i on, by what holds at each of them -/
theorem gk_count {E : CtlPost} {e : Env} (n : Nat) (I : Nat → State → Prop) (f : Nat → PUnit → Sem (ForInStep PUnit))
    (hf : ∀ i S d a (P : ForInStep PUnit → Pre), i < n → I i S → (∀ S1 d1 a1, I (i + 1) S1 → P (.yield ⟨⟩) d1 a1 S1) → wp (f i ⟨⟩) P E e d a S) :
    ∀ k i, i + k = n → ∀ S d a (P : PUnit → Pre), I i S → (∀ S1 d1 a1, I n S1 → P ⟨⟩ d1 a1 S1) → wp (forIn (List.range' i k) PUnit.unit f) P E e d a S
  | 0, i, hn, S, d, a, P, h, hP => by
    rw [show List.range' i 0 = [] from rfl, List.forIn_nil, wp_pure']
    exact hP S d a (hn ▸ h)
  | k + 1, i, hn, S, d, a, P, h, hP => by
    rw [show List.range' i (k + 1) = i :: List.range' (i + 1) k from rfl, List.forIn_cons, wp_bind']
    exact hf i S d a _ (by omega) h (fun S1 d1 a1 h1 => gk_count n I f hf k (i + 1) (by omega) S1 d1 a1 P h1 hP)
section GKS
variable {p : Program} {l : Launch} {e : Env} {R : Room} {s : State} {m : MethodId} {args : Array Value} {below : List Frame} {meth : Method} {c : Code} {V : State} {locs : List Loc} {cells slots : Nat} {g : JFrame} {cA cI : ClassId}
theorem gk_first (X : Stand p l e R s m args below meth c V locs cells slots) (g : JFrame) : GK p l e R s m args below meth c V locs cells slots g cA cI 0 ((V.pushCell (gk_out cA V.heap.size 0)).setTop g) := by
  have h := X.pushed (gk_out cA V.heap.size 0)
  rw [show (gk_out cA V.heap.size 0).slots.size = 10 from arrV_size _ _ _] at h
  refine ⟨_, [], rfl, by rw [List.append_nil]; exact h, (fun q hq => by cases hq), rfl, by rw [State.heap_pushCell, Array.size_push], fun a => ?_⟩
  rw [State.heap_pushCell, Array.getElem?_push]
  unfold gk_at
  rcases Nat.lt_trichotomy a V.heap.size with h1 | h1 | h1
  · rw [if_neg (by omega), if_pos h1]
  · rw [if_pos h1, if_neg (by omega), if_pos h1]
  · rw [if_neg (by omega), if_neg (by omega), if_neg (by omega), if_neg (by omega), Array.getElem?_eq_none (by omega)]
theorem gk_row {kA kI : Class} {c0 : ClassId} (hA : V.vm.classes[cA]? = some kA) (hA2 : kA.kind = .array cI (.array .int)) (hI : V.vm.classes[cI]? = some kI) (hI2 : kI.kind = .array c0 .int) (hc : cells + 11 ≤ R.cells) (hs : slots + 40 ≤ R.slots)
    {E : CtlPost} {i : Nat} (hi : i < 10) {S : State} {d : Bool} {a : List Action} {P : Unit → Pre} (h : GK p l e R s m args below meth c V locs cells slots g cA cI i S) (hP : ∀ S1 d1 a1, GK p l e R s m args below meth c V locs cells slots g cA cI (i + 1) S1 → P () d1 a1 S1) :
    wp (do let x ← Jvm.Op.multianewarray.make cI [3]; Jvm.writeLoc V.heap.size i (.ref x)) P E e d a S := by
  obtain ⟨U, L, rfl, X, hL, hvm, hz, hat⟩ := h
  obtain ⟨r1, r2⟩ := X.roomAbove (a := 1) (b := 3) (by omega) (by omega)
  have q1 := Launch.admits_arrayLengthLimit X.admits
  have q2 := Launch.admits_maxHeapBytes X.admits
  have hin : (U.setTop g).vm.classes[cI]? = some kI := by
    show U.vm.classes[cI]? = _
    rw [hvm]
    exact hI
  have hout : U.heap[V.heap.size]? = some (gk_out cA V.heap.size i) := (hat _).trans (gk_outer _ _ _ _)
  have hlt : V.heap.size < U.heap.size := by omega
  have hX := (X.pushed (gk_in cI)).stored (a := V.heap.size) (cell := gk_out cA V.heap.size i) (by rw [State.heap_pushCell_of_lt (h := hlt)]; exact hout) i (.ref U.heap.size)
  rw [show (gk_in cI).slots.size = 3 from arrV_size _ _ _, List.append_assoc, Nat.add_assoc cells, Nat.add_assoc slots, Nat.add_assoc 1, Nat.add_assoc 10, show 3 * i + 3 = 3 * (i + 1) by omega] at hX
  rw [wp_bind', Jvm.Op.multianewarray.make]
  simp only [wp_bind', W.ite, show ¬ ((3 : Int32) < 0) by decide, if_false, wp_pure', W.theClass, hin, hI2, Option.some.injEq, exists_eq_left']
  refine W.newArray_of hin hI2 (by rw [q1]; decide) (by rw [q2]; decide) (by show U.heap.size < _; omega) (by show U.slotsUsed + 3 ≤ _; omega) rfl (fun a2 => ?_)
  rw [show ({ cls := cI, slots := Array.replicate (Int32.toNatClampNeg 3) (defaultValue .int) } : Cell) = gk_in cI from arrV_new cI 3 (.int 0), W.writeLoc]
  have hfit : U.fitsSlot cA .none i (.ref U.heap.size) = true := by
    simp only [State.fitsSlot, State.slotType?, hvm, hA, hA2, Option.bind_eq_bind, Option.bind_some]
    rfl
  refine ⟨gk_out cA V.heap.size i, Eq.trans (State.heap_pushCell_of_lt _ _ hlt) hout, (fun q => by cases q), by rw [show (gk_out cA V.heap.size i).slots.size = 10 from arrV_size _ _ _]; exact hi, hfit, hP _ _ _ ⟨(U.pushCell (gk_in cI)).setCell V.heap.size ((gk_out cA V.heap.size i).setSlot i (.ref U.heap.size)), L ++ [⟨V.heap.size, i⟩], rfl, hX, ?_, hvm, ?_, fun x => ?_⟩⟩
  · intro q hq
    rcases List.mem_append.mp hq with h | h
    · exact hL q h
    · rw [List.mem_singleton.mp h]
  · rw [State.heap_setCell, Array.size_setIfInBounds, State.heap_pushCell, Array.size_push]
    omega
  · rw [hz, gk_fill]
    exact gk_more _ _ _ _ _ hz hat x
/-- the ten rows, one by one, behind the outer array -/
theorem gk_make {kA kI : Class} {c0 : ClassId} (hA : V.vm.classes[cA]? = some kA) (hA2 : kA.kind = .array cI (.array .int)) (hI : V.vm.classes[cI]? = some kI) (hI2 : kI.kind = .array c0 .int) (hc : cells + 11 ≤ R.cells) (hs : slots + 40 ≤ R.slots)
    (X : Stand p l e R s m args below meth c V locs cells slots) {E : CtlPost} {d : Bool} {a : List Action} {P : Addr → Pre} (hP : ∀ S1 d1 a1, GK p l e R s m args below meth c V locs cells slots g cA cI 10 S1 → P V.heap.size d1 a1 S1) :
    wp (Jvm.Op.multianewarray.make cA [10, 3]) P E e d a (V.setTop g) := by
  obtain ⟨r1, r2⟩ := X.roomAbove (a := 1) (b := 10) (by omega) (by omega)
  have q1 := Launch.admits_arrayLengthLimit X.admits
  have q2 := Launch.admits_maxHeapBytes X.admits
  have hin : (V.setTop g).vm.classes[cA]? = some kA := hA
  rw [Jvm.Op.multianewarray.make]
  simp only [wp_bind', W.ite, show ¬ ((10 : Int32) < 0) by decide, if_false, wp_pure', W.theClass, hin, hA2, Option.some.injEq, exists_eq_left']
  refine W.newArray_of hin hA2 (by rw [q1]; decide) (by rw [q2]; decide) (by show V.heap.size < _; omega) (by show V.slotsUsed + 10 ≤ _; omega) rfl (fun a2 => ?_)
  have e0 : ({ cls := cA, slots := Array.replicate (Int32.toNatClampNeg 10) Value.null } : Cell) = gk_out cA V.heap.size 0 := arrV_new cA 10 .null
  rw [e0, if_neg (by decide), Std.Legacy.Range.forIn_eq_forIn_range', wp_bind']
  refine gk_count 10 (GK p l e R s m args below meth c V locs cells slots g cA cI) _ (fun i S d1 a1 P1 hi hI1 hk => ?_) 10 0 rfl _ _ _ _ (gk_first X g) (fun S1 d1 a1 h1 => ?_)
  · have h := gk_row (E := E) (d := d1) (a := a1) (P := fun _ => P1 (.yield ⟨⟩)) hA hA2 hI hI2 hc hs hi hI1 hk
    rw [wp_bind'] at h
    simp only [wp_bind', wp_pure']
    exact h
  · rw [wp_pure']
    exact hP S1 d1 a1 h1
end GKS
/-- an instruction of which it is told only what holds of the state that it leaves -/
theorem gk_instr {tb : Tables} [Ours tb] {e : Env} {below : List Frame} {S : State} {f : JFrame} {c : Code} {i : Instr} {len : Nat} {Q : State → Prop} (h : At S f.method c below) (hd : decode c.code f.pc = .ok (i, len))
    (hw : wpRun (tb.exec i) (fun _ S1 _ => ∃ t, Steps tb e below (afterInstr e len (.ok () S1 [])).1 t ∧ Q t) (fun _ _ _ => False) e (S.setTop f)) : ∃ t, Steps tb e below (S.setTop f) t ∧ Q t := by
  have h1 := (wpRun_iff_run _ _ _ _ _).mp hw
  cases hr : (tb.exec i).run e (S.setTop f) with
  | ctl x S1 acts =>
    rw [hr] at h1
    cases x <;> exact h1.elim
  | ok v S1 acts =>
    rw [hr] at h1
    obtain ⟨t, ht, hQ⟩ := h1
    refine ⟨t, Steps.instr h ?_, hQ⟩
    rw [hd]
    refine (wpRun_iff_run _ _ _ _ _).mpr ?_
    rw [hr]
    exact fun _ => ht
/-- what the tables say of int[] and int[][] -/
def AG (U : State) (cA cI : ClassId) : Prop := ∃ (k kI : Class) (c0 : ClassId), U.vm.findClass "[[I" = some cA ∧ U.vm.classes[cA]? = some k ∧ k.kind = .array cI (.array .int) ∧ U.vm.classes[cI]? = some kI ∧ kI.kind = .array c0 .int
theorem AG.moved {cA cI : ClassId} {u U : State} (hvm : u.vm.Alike U.vm) (h : AG u cA cI) : AG U cA cI := by
  obtain ⟨k, kI, c0, h1, h2, h3, h4, h5⟩ := h
  obtain ⟨k', hk', he⟩ := hvm.2.2 _ _ h2
  obtain ⟨kI', hkI', heI⟩ := hvm.2.2 _ _ h4
  exact ⟨k', kI', c0, by rw [hvm.findClass]; exact h1, hk', by rw [he]; exact h3, hkI', by rw [heI]; exact h5⟩
/-- the opcode: what its class entry gives, the two counts off the stack, gk_make, and the address on the stack -/
theorem w_grid {p : Program} {l : Launch} {e : Env} {R : Room} {s : State} {m : MethodId} {args : Array Value} {below : List Frame} {meth : Method} {c : Code} {H : Heap} {locs : List Loc} {cells slots : Nat} {Q : State → Prop} {cc : ByteArray} (hexec : p.tables.exec = Jvm.exec) (hb : c.code = cc) {own : String} {index : Nat}
    (hown : s.vm.findClass own = some m.cls) (hclink : (Cond.classLink own index "[[I").before args s = true) {cA cI : ClassId} (hG : AG s cA cI)
    {pc : Nat} {ls : Array Slot} {st : List Value} (hdg : decode cc pc = .ok (.multianewarray index 2, 4)) (hcells : cells + 11 ≤ R.cells) (hslots : slots + 40 ≤ R.slots)
    (kk : ∀ (H1 : Heap) (locs1 : List Loc), H1.size = H.size + 11 → (∀ a : Nat, H1[a]? = gk_at H cA cI 10 a) → (∀ q ∈ locs1, q ∈ locs ∨ q.base = H.size) →
      W p l e R s m args below meth c H1 locs1 (cells + 11) (slots + 40) Q (F0 m (pc + 4) ls (.ref H.size :: st))) : W p l e R s m args below meth c H locs cells slots Q (F0 m pc ls (.int 3 :: .int 10 :: st)) := by
  rintro T rfl X
  obtain ⟨-, -, -, hfind, -⟩ := id hG
  obtain ⟨c1, hc1, hlink⟩ := Cond.classLink_spec hown hclink e.platform ((congrArg Platform.magicAccessors X.admits.platform).trans rfl)
  obtain rfl : cA = c1 := Option.some.inj (hfind.symm.trans hc1)
  obtain ⟨hgive, hwarm, -⟩ := State.classEntry (e := e) X.warmed hlink
  have XV := X.noted hwarm
  obtain ⟨k, kI, c0, -, hA, hA2, hI, hI2⟩ := AG.moved (U := T.setVm (T.vm.noted m.cls index (.cls cA))) hwarm.alike hG
  refine gk_instr (f := F0 m pc ls (.int 3 :: .int 10 :: st)) X.here (by rw [hb]; exact hdg) ?_
  rw [hexec]
  show wp (Jvm.Op.multianewarray.sem index 2) _ _ e _ _ _
  simp only [Jvm.Op.multianewarray.sem, wp_bind']
  rw [W.resolveClassAt_links (State.method?_setTop _ X.here.top) hgive]
  have hpop : (2 : Nat) = [Value.int 10, Value.int 3].length := rfl
  rw [hpop, State.setVm_setTop, wp_bind', Jvm.Op.popN_top XV.here.top (rest := st) rfl]
  simp only [List.mapM_cons, List.mapM_nil, wp_bind', wp_pure']
  refine gk_make hA hA2 hI hI2 hcells hslots XV (fun S1 d1 a1 h1 => ?_)
  obtain ⟨U, L, rfl, XU, hL, -, hz, hat⟩ := h1
  rw [wp_bind', W.mark, W.pushRef]
  refine ⟨_, State.topJava?_setTop' _ XU.here.top, ?_⟩
  rw [State.setTop_setTop, afterInstr_ok]
  exact kk U.heap (locs ++ L) hz hat (fun q hq => (List.mem_append.mp hq).imp_right (hL q)) U rfl XU

