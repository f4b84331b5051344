
/-! new int[10][3], at the machine: the outer array, then its rows one by one, each stored as it is made -/
def mg_o (cA : ClassId) (h0 i : Nat) : Cell := arrV cA 10 (fun j => if j < i then .ref (h0 + 1 + j) else .null)
def mg_s (T : State) (cA cI : ClassId) : Nat → State
  | 0 => T.pushCell (mg_o cA T.heap.size 0)
  | i + 1 => ((mg_s T cA cI i).pushCell (arrV cI 3 (fun _ => .int 0))).setCell T.heap.size (mg_o cA T.heap.size (i + 1))
theorem mg_next (cA : ClassId) (h0 i : Nat) : (mg_o cA h0 i).setSlot i (.ref (h0 + 1 + i)) = mg_o cA h0 (i + 1) := by
  unfold mg_o
  rw [arrV_store]
  congr 1
  funext j
  unfold updV
  by_cases h : j = i
  · subst h
    simp
  · by_cases h2 : j < i
    · simp [h, h2, Nat.lt_succ_of_lt h2]
    · simp [h, h2, show ¬ j < i + 1 by omega]
theorem mg_facts (T : State) (cA cI : ClassId) : ∀ i, (mg_s T cA cI i).heap.size = T.heap.size + 1 + i ∧ (mg_s T cA cI i).heap[T.heap.size]? = some (mg_o cA T.heap.size i) ∧ (mg_s T cA cI i).vm = T.vm ∧ (mg_s T cA cI i).slotsUsed = T.slotsUsed + 10 + i * 3
  | 0 => ⟨by simp [mg_s], by simp [mg_s], rfl, by simp [mg_s, mg_o, arrV_size]⟩
  | i + 1 => by
    obtain ⟨a, b, c, d⟩ := mg_facts T cA cI i
    have hlt : T.heap.size < (mg_s T cA cI i).heap.size := by omega
    have hb : ((mg_s T cA cI i).pushCell (arrV cI 3 (fun _ => .int 0))).heap[T.heap.size]? = some (mg_o cA T.heap.size i) := by
      rw [State.heap_pushCell_of_lt (h := hlt)]
      exact b
    refine ⟨?_, State.heap_setCell_self hb, by simp [mg_s, c], ?_⟩
    · simp [mg_s, State.setCell, a]
      omega
    · simp [mg_s, d, arrV_size]
      omega
theorem mg_top (T : State) (f : JFrame) (cA cI : ClassId) : ∀ i, mg_s (T.setTop f) cA cI i = (mg_s T cA cI i).setTop f
  | 0 => rfl
  | i + 1 => by simp only [mg_s, mg_top T f cA cI i, State.heap_setTop, State.pushCell_setTop, State.setCell_setTop]
theorem mg_old (T : State) (cA cI : ClassId) {a : Addr} (ha : a < T.heap.size) : ∀ i, (mg_s T cA cI i).heap[a]? = T.heap[a]?
  | 0 => State.heap_pushCell_of_lt _ _ ha
  | i + 1 => by
    have f1 := (mg_facts T cA cI i).1
    have hlt : a < (mg_s T cA cI i).heap.size := Nat.lt_of_lt_of_le ha (by rw [f1]; omega)
    show (((mg_s T cA cI i).pushCell _).setCell T.heap.size _).heap[a]? = _
    rw [State.heap_setCell_other (Nat.ne_of_gt ha), State.heap_pushCell_of_lt (h := hlt)]
    exact mg_old T cA cI ha i
theorem mg_row (T : State) (cA cI : ClassId) : ∀ i j, j < i → (mg_s T cA cI i).heap[T.heap.size + 1 + j]? = some (arrV cI 3 (fun _ => .int 0))
  | 0, _, h => absurd h (Nat.not_lt_zero _)
  | i + 1, j, h => by
    have f1 := (mg_facts T cA cI i).1
    show (((mg_s T cA cI i).pushCell _).setCell T.heap.size _).heap[T.heap.size + 1 + j]? = _
    rw [State.heap_setCell_other (show T.heap.size ≠ T.heap.size + 1 + j by omega)]
    by_cases e : j = i
    · subst e
      rw [← f1]
      exact State.heap_pushCell_size _ _
    · have hlt : T.heap.size + 1 + j < (mg_s T cA cI i).heap.size := by omega
      rw [State.heap_pushCell_of_lt (h := hlt)]
      exact mg_row T cA cI i j (by omega)
section MG
variable {p : Program} {l : Launch} {e : Env} {R : Room} {s : State} {m : MethodId} {args : Array Value} {below : List Frame} {meth : Method} {c : Code} {T : State} {locs : List Loc} {cells slots : Nat}
theorem mg_stand (X : Stand p l e R s m args below meth c T locs cells slots) (cA cI : ClassId) : ∀ i, Stand p l e R s m args below meth c (mg_s T cA cI i) (locs ++ (List.range i).map fun j => ⟨T.heap.size, j⟩) (cells + 1 + i) (slots + 10 + i * 3)
  | 0 => by
    have h := X.pushed (mg_o cA T.heap.size 0)
    rw [show (mg_o cA T.heap.size 0).slots.size = 10 from arrV_size _ _ _] at h
    simpa [mg_s] using h
  | i + 1 => by
    have Xi := mg_stand X cA cI i
    obtain ⟨f1, f2, f3, f4⟩ := mg_facts T cA cI i
    have hlt : T.heap.size < (mg_s T cA cI i).heap.size := by omega
    have hcell : ((mg_s T cA cI i).pushCell (arrV cI 3 (fun _ => .int 0))).heap[T.heap.size]? = some (mg_o cA T.heap.size i) := by
      rw [State.heap_pushCell_of_lt (h := hlt)]
      exact f2
    have h := (Xi.pushed (arrV cI 3 (fun _ => .int 0))).stored hcell i (.ref (T.heap.size + 1 + i))
    rw [mg_next, show (arrV cI 3 (fun _ => Value.int 0)).slots.size = 3 from arrV_size _ _ _] at h
    have e2 : (locs ++ (List.range (i + 1)).map fun j => (⟨T.heap.size, j⟩ : Loc)) = (locs ++ (List.range i).map fun j => (⟨T.heap.size, j⟩ : Loc)) ++ [⟨T.heap.size, i⟩] := by simp [List.range_succ, List.append_assoc]
    have e3 : slots + 10 + (i + 1) * 3 = slots + 10 + i * 3 + 3 := by omega
    rw [e2, e3]
    exact h
end MG
section MG2
variable {E : CtlPost} {e : Env} {d : Bool} {acts : List Action} {s : State}
theorem mg_arr {cX comp : ClassId} {k : Class} {type : FieldType} {len : Nat} {init : Value} (hk : s.vm.classes[cX]? = some k) (hkind : k.kind = .array comp type)
    (hl : ¬ len > e.platform.arrayLengthLimit) (hh : ¬ len * componentBytes type > e.platform.maxHeapBytes) (hfit : fits type init = true) (hdef : init.isDefault = true) {Q : Addr → Pre}
    (h1 : s.heap.size < e.platform.maxCells) (h2 : s.slotsUsed + len ≤ e.platform.maxSlots)
    (hq : Q s.heap.size d acts (s.pushCell (arrV cX len (fun _ => init)))) : wp (Jvm.newArray cX len init) Q E e d acts s := by
  have hfits : ∀ i v, (Array.replicate len init)[i]? = some v → s.fitsSlot cX .none i v = true := fun i v hv => by
    rw [Array.getElem?_replicate] at hv
    by_cases hi : i < len
    · rw [if_pos hi] at hv
      cases hv
      simp [State.fitsSlot, State.slotType?, hk, hkind, hfit]
    · rw [if_neg hi] at hv
      cases hv
  have hact : allocActs (Array.replicate len init) s.heap.size acts = acts := by
    unfold allocActs
    refine if_pos ?_
    rw [Array.all_replicate]
    split <;> simp [hdef]
  rw [← arrV_new] at hq
  simp only [Jvm.newArray, Jvm.arrayFits, wp_bind', W.ask, W.ite, hl, if_false, wp_pure', W.theClass, hk, hkind, hh, W.alloc, W.stop, Option.some.injEq, exists_eq_left', Array.size_replicate, hact]
  rw [if_neg (by omega)]
  exact ⟨h1, h2, hfits, hq⟩
theorem mg_make {cA cI c0 : ClassId} {k kI : Class} (hk : s.vm.classes[cA]? = some k) (hkind : k.kind = .array cI (.array .int)) (hkI : s.vm.classes[cI]? = some kI) (hkindI : kI.kind = .array c0 .int)
    (hl : 10 ≤ e.platform.arrayLengthLimit) (hh : 40 ≤ e.platform.maxHeapBytes) (h1 : s.heap.size + 11 ≤ e.platform.maxCells) (h2 : s.slotsUsed + 40 ≤ e.platform.maxSlots)
    {Q : Addr → Pre} (hq : ∀ d' acts', Q s.heap.size d' acts' (mg_s s cA cI 10)) : wp (Jvm.Op.multianewarray.make cA [10, 3]) Q E e d acts s := by
  have rf : ∀ v : Value, (v = .null ∨ ∃ a, v = .ref a) → fits (.array .int) v = true := fun v hv => by
    rcases hv with rfl | ⟨a, rfl⟩ <;> rfl
  have n10 : ¬ ((10 : Int32) < 0) := by decide
  have n3 : ¬ ((3 : Int32) < 0) := by decide
  have t10 : (10 : Int32).toNatClampNeg = 10 := rfl
  have t3 : (3 : Int32).toNatClampNeg = 3 := rfl
  rw [Jvm.Op.multianewarray.make]
  simp only [wp_bind', W.ite, n10, if_false, wp_pure', W.theClass, hk, hkind, Option.some.injEq, exists_eq_left', t10]
  refine mg_arr hk hkind (by omega) (by show ¬ 10 * 4 > _; omega) (rf _ (Or.inl rfl)) rfl (by omega) (by omega) ?_
  have hfind : ([(3 : Int32)].find? (· < 0)) = none := by decide
  simp only [hfind]
  rw [ite_self, wp_bind', Std.Legacy.Range.forIn_eq_forIn_range']
  have hsz : ([:10] : Std.Legacy.Range).size = 10 := rfl
  rw [hsz]
  show wp (forIn (List.range' 0 10 1) PUnit.unit _) _ E e d acts _
  refine wp_forIn_inv (fun rest s' => ∃ i, i ≤ 10 ∧ rest = List.range' i (10 - i) ∧ s' = mg_s s cA cI i) _ _ ⟨0, by decide, rfl, ?_⟩ ?_ ?_
  · show s.pushCell (arrV cA 10 (fun _ => .null)) = s.pushCell (mg_o cA s.heap.size 0)
    rfl
  · rintro x rest s' d' acts' Q' ⟨i, hi, hl2, rfl⟩ hnext
    have hlt : i < 10 := by
      rcases Nat.lt_or_ge i 10 with h | h
      · exact h
      · rw [show 10 - i = 0 by omega] at hl2
        cases hl2
    obtain ⟨rfl, hrest⟩ : x = i ∧ rest = List.range' (i + 1) (10 - (i + 1)) := by
      rw [show 10 - i = (10 - (i + 1)) + 1 by omega, List.range'_succ] at hl2
      exact ⟨(List.cons.inj hl2).1, (List.cons.inj hl2).2⟩
    obtain ⟨f1, f2, f3, f4⟩ := mg_facts s cA cI x
    simp only [wp_bind']
    rw [Jvm.Op.multianewarray.make]
    simp only [wp_bind', W.ite, n3, if_false, wp_pure', W.theClass, f3, hkI, hkindI, Option.some.injEq, exists_eq_left', t3]
    refine mg_arr (by rw [f3]; exact hkI) hkindI (by omega) (by show ¬ 3 * 4 > _; omega) rfl rfl (by rw [f1]; omega) (by rw [f4]; omega) ?_
    have hlt0 : s.heap.size < (mg_s s cA cI x).heap.size := by omega
    simp only [wp_bind', W.writeLoc, wp_pure']
    refine ⟨mg_o cA s.heap.size x, by rw [State.heap_pushCell_of_lt (h := hlt0)]; exact f2, (fun q => by cases q), by rw [show (mg_o cA s.heap.size x).slots.size = 10 from arrV_size _ _ _]; exact hlt, ?_, hnext _ _ _ ⟨x + 1, hlt, hrest, ?_⟩⟩
    · show State.fitsSlot _ cA .none x _ = true
      simp [State.fitsSlot, State.slotType?, f3, hk, hkind, rf _ (Or.inr ⟨_, rfl⟩)]
    · rw [f1, mg_next]
      rfl
  · rintro s' d' acts' ⟨i, hi, hl2, rfl⟩
    have e10 : i = 10 := by
      rcases Nat.lt_or_ge i 10 with h | h
      · rw [show 10 - i = (10 - (i + 1)) + 1 by omega, List.range'_succ] at hl2
        cases hl2
      · omega
    subst e10
    simp only [wp_pure']
    exact hq _ _
end MG2
/-- what the tables say of int[] and int[][] -/
def AG (U : State) (cA cI : ClassId) : Prop := ∃ (k kI : Class) (c0 : ClassId), U.vm.findClass "[[I" = some cA ∧ U.vm.classes[cA]? = some k ∧ k.kind = .array cI (.array .int) ∧ U.vm.classes[cI]? = some kI ∧ kI.kind = .array c0 .int
theorem AG.moved {cA cI : ClassId} {u U : State} (hvm : u.vm.Alike U.vm) (h : AG u cA cI) : AG U cA cI := by
  obtain ⟨k, kI, c0, h1, h2, h3, h4, h5⟩ := h
  obtain ⟨k', hk', he⟩ := hvm.2.2 _ _ h2
  obtain ⟨kI', hkI', heI⟩ := hvm.2.2 _ _ h4
  exact ⟨k', kI', c0, by rw [hvm.findClass]; exact h1, hk', by rw [he]; exact h3, hkI', by rw [heI]; exact h5⟩
theorem w_grid {p : Program} {l : Launch} {e : Env} {R : Room} {s : State} {m : MethodId} {args : Array Value} {below : List Frame} {meth : Method} {c : Code} {H : Heap} {locs : List Loc} {cells slots : Nat} {Q : State → Prop} {cc : ByteArray} (hexec : p.tables.exec = Jvm.exec) (hb : c.code = cc) {own : String} {index : Nat}
    (hown : s.vm.findClass own = some m.cls) (hclink : (Cond.classLink own index "[[I").before args s = true) {cA cI : ClassId} (hG : AG s cA cI)
    {pc : Nat} {ls : Array Slot} {st : List Value} (hdg : decode cc pc = .ok (.multianewarray index 2, 4)) (hcells : cells + 11 ≤ R.cells) (hslots : slots + 40 ≤ R.slots)
    (kk : ∀ (H1 : Heap) (locs1 : List Loc), H1.size = H.size + 11 → (∀ a, a < H.size → H1[a]? = H[a]?) → H1[H.size]? = some (mg_o cA H.size 10) → (∀ j, j < 10 → H1[H.size + 1 + j]? = some (arrV cI 3 (fun _ => .int 0))) → (∀ q ∈ locs1, q ∈ locs ∨ q.base = H.size) →
      W p l e R s m args below meth c H1 locs1 (cells + 11) (slots + 40) Q (F0 m (pc + 4) ls (.ref H.size :: st))) : W p l e R s m args below meth c H locs cells slots Q (F0 m pc ls (.int 3 :: .int 10 :: st)) := by
  intro T hT X
  subst hT; subst hb
  have hpl : e.platform.magicAccessors = ({} : Platform).magicAccessors := by rw [X.admits.platform]
  obtain ⟨k, kI, c0, hf, hk, hkind, hkI, hkindI⟩ := hG
  obtain ⟨cq, hfq, hcl⟩ := Cond.classLink_spec hown hclink e.platform hpl
  cases hf.symm.trans hfq
  obtain ⟨hg₁, hwarm₁, hready₁⟩ := State.classEntry (e := e) X.warmed hcl
  generalize T.vm.noted m.cls index (.cls cA) = vm₁ at hg₁ hwarm₁ hready₁
  have hal : s.vm.Alike vm₁ := hwarm₁.alike
  obtain ⟨k₁, hk₁, he⟩ := hal.2.2 _ _ hk
  obtain ⟨kI₁, hkI₁, heI⟩ := hal.2.2 _ _ hkI
  have X₁ := X.noted hwarm₁
  obtain ⟨hr1, hr2⟩ := X.roomAbove hcells hslots
  have XF := mg_stand X₁ cA cI 10
  have F := mg_facts (T.setVm vm₁) cA cI 10
  obtain ⟨t, a1, b1⟩ := kk (mg_s (T.setVm vm₁) cA cI 10).heap _ F.1 (fun a ha => mg_old (T.setVm vm₁) cA cI ha 10) F.2.1 (fun j hj => mg_row (T.setVm vm₁) cA cI 10 j hj) (fun q hq => by
    rcases List.mem_append.mp hq with h | h
    · exact Or.inl h
    · obtain ⟨j, -, rfl⟩ := List.mem_map.mp h
      exact Or.inr rfl) _ rfl XF
  refine ⟨t, ?_, b1⟩
  have hlim : (10 : Nat) ≤ e.platform.arrayLengthLimit := by rw [Launch.admits_arrayLengthLimit X.admits]; omega
  have hhp : (40 : Nat) ≤ e.platform.maxHeapBytes := by rw [Launch.admits_maxHeapBytes X.admits]; omega
  jvm_step X.here [hexec, hdg]
  simp only [Jvm.Op.multianewarray.sem, wp_bind', W.resolveClassAt_links (State.method?_setTop (F0 m pc ls (.int 3 :: .int 10 :: st)) X.here.top) hg₁]
  rw [W.popN, if_neg (by decide)]
  refine ⟨F0 m pc ls (.int 3 :: .int 10 :: st), State.topJava?_setTop' (s := T.setVm vm₁) _ X.here.top, [.int 10, .int 3], st, rfl, rfl, ?_⟩
  simp only [List.mapM_cons, List.mapM_nil, wp_bind', wp_pure']
  refine mg_make (k := k₁) (kI := kI₁) hk₁ (by rw [he]; exact hkind) hkI₁ (by rw [heI]; exact hkindI) hlim hhp (by show T.heap.size + 11 ≤ _; omega) (by show T.slotsUsed + 40 ≤ _; omega) (fun d' acts' => ?_)
  have eS : ((T.setTop (F0 m pc ls (.int 3 :: .int 10 :: st))).setVm vm₁).setTop (F0 m pc ls st) = (T.setVm vm₁).setTop (F0 m pc ls st) := by
    show ((T.setVm vm₁).setTop _).setTop _ = _
    rw [State.setTop_setTop]
  have eF : ({ F0 m pc ls (.int 3 :: .int 10 :: st) with stack := st } : JFrame) = F0 m pc ls st := rfl
  rw [eF, eS, mg_top]
  simp only [wp_bind', W.mark, W.pushRef, State.topJava?_setTop' _ XF.here.top, Option.some.injEq, exists_eq_left', State.setTop_setTop, State.heap_setTop]
  intro acts
  simp [jvm, XF.here.top]
  exact a1

