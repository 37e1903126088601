section GM
variable {p : Program} {l : Launch} {e : Env} {R : Room} {s : State} {m : MethodId} {args : Array Value} {below : List Frame} {meth : Method} {c : Code} {H : Heap} {locs : List Loc} {cells slots : Nat} {Q : State → Prop}
abbrev gm_in (comp : ClassId) (M : Nat) (dv : Value) : Cell := { cls := comp, slots := Array.replicate M dv }
/-- one row more: made, and noted in the outer row at h0 -/
def gm_nx (h0 : Nat) (comp : ClassId) (M : Nat) (dv : Value) (T' : State) (i : Nat) : State := match T'.heap[h0]? with
  | some x9 => (T'.pushCell (gm_in comp M dv)).setCell h0 (x9.setSlot i (.ref T'.heap.size))
  | none => T'
def gm_f (T : State) (cA comp : ClassId) (N M : Nat) (dv : Value) : Nat → State
  | 0 => T.pushCell { cls := cA, slots := Array.replicate N .null }
  | i + 1 => gm_nx T.heap.size comp M dv (gm_f T cA comp N M dv i) i
/-- where the making of a grid stands behind i rows: all older cells as in T, the outer row at the old end -/
def gm_I (p : Program) (l : Launch) (e : Env) (R : Room) (s : State) (m : MethodId) (args : Array Value) (below : List Frame) (meth : Method) (c : Code) (T : State) (locs : List Loc) (cells slots : Nat) (cA : ClassId) (N M i : Nat) (T' : State) : Prop :=
  ∃ (cell : Cell) (ex : List Loc), Stand p l e R s m args below meth c T' (locs ++ ex) (cells + 1 + i) (slots + N + i * M) ∧ (∀ z ∈ ex, z.base = T.heap.size) ∧ T'.vm = T.vm ∧
    T'.heap[T.heap.size]? = some cell ∧ cell.cls = cA ∧ cell.vm = .none ∧ cell.slots.size = N ∧ T'.heap.size = T.heap.size + 1 + i ∧ T'.slotsUsed = T.slotsUsed + N + i * M ∧ ∀ a : Nat, a < T.heap.size → T'.heap[a]? = T.heap[a]?
theorem gm_step {T T' : State} {cA comp : ClassId} {N M i : Nat} {dv : Value} (hI : gm_I p l e R s m args below meth c T locs cells slots cA N M i T') : gm_I p l e R s m args below meth c T locs cells slots cA N M (i + 1) (gm_nx T.heap.size comp M dv T' i) := by
  obtain ⟨cell, ex, X, hex, hvm, hcell, hcc, hcv, hcs, hsz, hsu, hold⟩ := hI
  have hlt : T.heap.size < T'.heap.size := by rw [hsz]; omega
  have X1 := X.pushed (gm_in comp M dv)
  have hcell1 : (T'.pushCell (gm_in comp M dv)).heap[T.heap.size]? = some cell := by rw [State.heap_pushCell_of_lt (h := hlt)]; exact hcell
  have X2 := X1.stored hcell1 i (.ref T'.heap.size)
  have e0 : gm_nx T.heap.size comp M dv T' i = (T'.pushCell (gm_in comp M dv)).setCell T.heap.size (cell.setSlot i (.ref T'.heap.size)) := by
    unfold gm_nx
    rw [hcell]
  rw [e0]
  refine ⟨cell.setSlot i (.ref T'.heap.size), ex ++ [⟨T.heap.size, i⟩], ?_, ?_, hvm, State.heap_setCell_self hcell1, hcc, hcv, ?_, ?_, ?_, ?_⟩
  · have e1 : (gm_in comp M dv).slots.size = M := by simp
    rw [e1] at X2
    have e2 : slots + N + (i + 1) * M = slots + N + i * M + M := by rw [Nat.succ_mul]; omega
    rw [e2, ← List.append_assoc]
    exact X2
  · intro z hz
    rcases List.mem_append.mp hz with h | h
    · exact hex z h
    · rw [List.mem_singleton.mp h]
  · simp [Cell.setSlot, hcs]
  · rw [size_setCell, size_pushCell, hsz]
    omega
  · show T'.slotsUsed + _ = _
    rw [hsu, Nat.succ_mul]
    simp
    omega
  · intro a ha
    rw [State.heap_setCell_other (Nat.ne_of_gt ha), State.heap_pushCell_of_lt (h := Nat.lt_trans ha hlt)]
    exact hold a ha
theorem gm_all {T : State} (X : Stand p l e R s m args below meth c T locs cells slots) (cA comp : ClassId) (N M : Nat) (dv : Value) : ∀ i, gm_I p l e R s m args below meth c T locs cells slots cA N M i (gm_f T cA comp N M dv i)
  | 0 => by
    have XO := X.pushed { cls := cA, slots := Array.replicate N .null }
    have esz : ({ cls := cA, slots := Array.replicate N .null } : Cell).slots.size = N := by simp
    rw [esz] at XO
    exact ⟨_, [], by simpa [gm_f] using XO, (fun z hz => by cases hz), rfl, State.heap_pushCell_size _ _, rfl, rfl, esz, size_pushCell _ _, by show T.slotsUsed + _ = _; simp, fun a ha => State.heap_pushCell_of_lt _ _ ha⟩
  | i + 1 => gm_step (gm_all X cA comp N M dv i)
theorem gm_make {T T' : State} {cA comp cc : ClassId} {kC : Class} {ty : FieldType} {g : JFrame} {N M i : Nat} (hI : gm_I p l e R s m args below meth c T locs cells slots cA N M i T') (hi : i < N)
    (hkC : T.vm.classes[comp]? = some kC) (hkindC : kC.kind = .array cc ty) (hdf : fits ty (defaultValue ty) = true)
    {k : Int32} (hk : ¬ k < 0) (hM : k.toNatClampNeg = M) (hl2 : ¬ M > e.platform.arrayLengthLimit) (hh2 : ¬ M * componentBytes ty > e.platform.maxHeapBytes)
    (hc1 : T.heap.size + 1 + N ≤ e.platform.maxCells) (hs1 : T.slotsUsed + N + N * M ≤ e.platform.maxSlots) {Ec : CtlPost} {d : Bool} {acts : List Action} {Qz : Addr → Pre}
    (hq : ∀ acts', Qz T'.heap.size d acts' ((T'.pushCell (gm_in comp M (defaultValue ty))).setTop g)) :
    wp (multianewarray.make comp [k]) Qz Ec e d acts (T'.setTop g) := by
  obtain ⟨cell, ex, X, hex, hvm, hcell, hcc, hcv, hcs, hsz, hsu, hold⟩ := hI
  subst hM
  have hmul : i * k.toNatClampNeg + k.toNatClampNeg ≤ N * k.toNatClampNeg := by
    have := Nat.mul_le_mul_right k.toNatClampNeg (show i + 1 ≤ N from hi)
    rw [Nat.succ_mul] at this
    exact this
  have hvm' : (T'.setTop g).vm = T.vm := hvm
  rw [multianewarray.make]
  simp only [wp_bind', W.ite, hk, if_false, wp_pure', W.theClass, hvm', hkC, hkindC, Option.some.injEq, exists_eq_left']
  exact W.newArray_of (k := kC) (comp := cc) (type := ty) (by rw [hvm']; exact hkC) hkindC hl2 hh2 (by show T'.heap.size < _; rw [hsz]; omega) (by show T'.slotsUsed + _ ≤ _; rw [hsu]; omega) hdf (fun acts' => hq acts')
theorem px_mna {cc : ByteArray} (hexec : p.tables.exec = Jvm.exec) (hb : c.code = cc) {own : String} {index : Nat} {ty : FieldType} (hown : s.vm.findClass own = some m.cls) (hclink : (Cond.classLink own index ("[" ++ (FieldType.array ty).toString)).before args s = true)
    (hover : (Cond.arrayOver (.array ty)).before args s = true) (harr : (Cond.arrayClass ty).before args s = true) {A : Nat → Prop} {H0 : Heap} (hS : va_S A H0 H locs) (hs0 : s.heap.size ≤ H.size)
    {n k : Int32} {N M : Nat} (hn : ¬ n < 0) (hk : ¬ k < 0) (hN : n.toNatClampNeg = N) (hM : k.toNatClampNeg = M) (hb1 : N * 4 ≤ 536870912) (hb2 : M * componentBytes ty ≤ 536870912) (hb3 : M ≤ 536870912) (hdf : fits ty (defaultValue ty) = true)
    (hcells : cells + (1 + N) ≤ R.cells) (hslots : slots + (N + N * M) ≤ R.slots) {pc : Nat} {ls : Array Slot} {rest : List Value} (hdg : decode cc pc = .ok (.multianewarray index 2, 4))
    (kk : ∀ (q : Nat) (H1 : Heap), (∀ a : Nat, a < H.size → H1[a]? = H[a]?) → va_S A H0 H1 locs → W p l e R s m args below meth c H1 locs (cells + 1 + N) (slots + N + N * M) Q (F0 m (pc + 4) ls (.ref q :: rest))) :
    W p l e R s m args below meth c H locs cells slots Q (F0 m pc ls (.int k :: .int n :: rest)) := by
  subst hN
  subst hM
  subst hb
  intro T hT X
  subst hT
  have hpl : e.platform.magicAccessors = ({} : Platform).magicAccessors := by rw [X.admits.platform]
  obtain ⟨comp, cA, kA, hcomp, -, hkA, hkindA, hnameA⟩ := arrayOverA_spec hover
  obtain ⟨comp', kC, cc, hcomp', hkC, hkindC⟩ := Cond.arrayClass_spec harr
  have ec : comp' = comp := Option.some.inj (hcomp'.symm.trans hcomp)
  subst ec
  obtain ⟨c0, hfc0, hcl⟩ := Cond.classLink_spec hown hclink e.platform hpl
  cases hnameA.symm.trans hfc0
  obtain ⟨hg₁, hwarm₁, -⟩ := State.classEntry (e := e) X.warmed hcl
  generalize T.vm.noted m.cls index (.cls cA) = vm₁ at hg₁ hwarm₁
  have hal : s.vm.Alike vm₁ := hwarm₁.alike
  obtain ⟨kA₁, hkA₁, heA⟩ := hal.2.2 _ _ hkA
  obtain ⟨kC₁, hkC₁, heC⟩ := hal.2.2 _ _ hkC
  have hkindA₁ : kA₁.kind = .array comp' (.array ty) := by rw [heA]; exact hkindA
  have hkindC₁ : kC₁.kind = .array cc ty := by rw [heC]; exact hkindC
  obtain ⟨hr1, hr2⟩ := X.roomAbove hcells hslots
  have hl1 : ¬ n.toNatClampNeg > e.platform.arrayLengthLimit := by rw [Launch.admits_arrayLengthLimit X.admits]; omega
  have hh1 : ¬ n.toNatClampNeg * componentBytes (.array ty) > e.platform.maxHeapBytes := by
    rw [Launch.admits_maxHeapBytes X.admits]; show ¬ n.toNatClampNeg * 4 > 536870912; omega
  have hl2 : ¬ k.toNatClampNeg > e.platform.arrayLengthLimit := by rw [Launch.admits_arrayLengthLimit X.admits]; omega
  have hh2 : ¬ k.toNatClampNeg * componentBytes ty > e.platform.maxHeapBytes := by rw [Launch.admits_maxHeapBytes X.admits]; omega
  have X₁ := X.noted hwarm₁
  have hall := gm_all X₁ cA comp' n.toNatClampNeg k.toNatClampNeg (defaultValue ty)
  have hTv : (T.setVm vm₁).heap.size = T.heap.size := rfl
  obtain ⟨cellN, exN, XN, hexN, -, -, -, -, -, hszN, -, holdN⟩ := hall n.toNatClampNeg
  have XF := Stand.forget XN (fun z hz => by rw [hexN z hz]; exact hs0)
  obtain ⟨t, a1, b1⟩ := kk T.heap.size _ (fun a ha => holdN a ha) ⟨Nat.le_trans hS.1 (by rw [hszN, hTv]; omega), fun q h1 h2 => (holdN q (Nat.lt_of_lt_of_le h1 hS.1)).trans (hS.2.1 q h1 h2), hS.2.2⟩ (gm_f (T.setVm vm₁) cA comp' n.toNatClampNeg k.toNatClampNeg (defaultValue ty) n.toNatClampNeg) rfl XF
  refine ⟨t, ?_, b1⟩
  jvm_step X.here [hexec, hdg]
  simp only [multianewarray.sem, wp_bind', W.resolveClassAt_links (State.method?_setTop (F0 m pc ls (.int k :: .int n :: rest)) X.here.top) hg₁]
  rw [W.popN, if_neg (by decide)]
  refine ⟨F0 m pc ls (.int k :: .int n :: rest), State.topJava?_setTop' (s := T.setVm vm₁) _ X.here.top, [.int n, .int k], rest, rfl, rfl, ?_⟩
  simp only [List.mapM_cons, List.mapM_nil, wp_bind', wp_pure']
  rw [show ((T.setTop (F0 m pc ls (.int k :: .int n :: rest))).setVm vm₁).setTop (F0 m pc ls rest) = (T.setVm vm₁).setTop (F0 m pc ls rest) from State.setTop_setTop (T.setVm vm₁) _ _]
  generalize hT1 : T.setVm vm₁ = T1 at *
  have hT1h : T1.heap = T.heap := by rw [← hT1]; rfl
  have hT1s : T1.slotsUsed = T.slotsUsed := by rw [← hT1]; rfl
  have hT1v : T1.vm = vm₁ := by rw [← hT1]; rfl
  have hfind : ([k].find? (· < 0)) = none := by simp [hk]
  have hkA₂ : T1.vm.classes[cA]? = some kA₁ := by rw [hT1v]; exact hkA₁
  have hkC₂ : T1.vm.classes[comp']? = some kC₁ := by rw [hT1v]; exact hkC₁
  rw [multianewarray.make]
  simp only [wp_bind', W.ite, hn, if_false, wp_pure', W.theClass, State.vm_setTop, hkA₂, hkindA₁, Option.some.injEq, exists_eq_left']
  refine W.newArray_of (k := kA₁) (comp := comp') (type := .array ty) (by rw [State.vm_setTop]; exact hkA₂) hkindA₁ hl1 hh1 (by show T1.heap.size < _; rw [hT1h]; omega) (by show T1.slotsUsed + _ ≤ _; rw [hT1s]; have := Nat.zero_le (n.toNatClampNeg * k.toNatClampNeg); omega) rfl (fun acts' => ?_)
  simp only [hfind]
  rw [ite_self, wp_bind', Std.Legacy.Range.forIn_eq_forIn_range']
  have hsz : ([:n.toNatClampNeg] : Std.Legacy.Range).size = n.toNatClampNeg := by simp [Std.Legacy.Range.size]
  rw [hsz]
  refine wp_forIn_inv (fun rs u => ∃ i, i ≤ n.toNatClampNeg ∧ rs = List.range' i (n.toNatClampNeg - i) ∧ u = (gm_f T1 cA comp' n.toNatClampNeg k.toNatClampNeg (defaultValue ty) i).setTop (F0 m pc ls rest)) _ _ ⟨0, Nat.zero_le _, rfl, rfl⟩ ?_ ?_
  · rintro x rs u d' acts' Q' ⟨i, hi, hl, rfl⟩ hnext
    have hlt : i < n.toNatClampNeg := by
      rcases Nat.lt_or_ge i n.toNatClampNeg with h | h
      · exact h
      · rw [show n.toNatClampNeg - i = 0 from by omega] at hl
        simp at hl
    obtain ⟨rfl, hrest⟩ : x = i ∧ rs = List.range' (i + 1) (n.toNatClampNeg - (i + 1)) := by
      rw [show n.toNatClampNeg - i = (n.toNatClampNeg - (i + 1)) + 1 from by omega, List.range'_succ] at hl
      exact ⟨(List.cons.inj hl).1, (List.cons.inj hl).2⟩
    simp only [wp_bind']
    refine gm_make (hall x) hlt hkC₂ hkindC₁ hdf hk rfl hl2 hh2 (by rw [hT1h]; omega) (by rw [hT1s]; omega) (fun acts2 => ?_)
    obtain ⟨c9, ex, Xi, hex, hvm, hcell, hcc, hcv, hcs, hsz9, hsu, hold⟩ := hall x
    have hlt0 : T1.heap.size < (gm_f T1 cA comp' n.toNatClampNeg k.toNatClampNeg (defaultValue ty) x).heap.size := by rw [hsz9]; omega
    have hcell1 : ((gm_f T1 cA comp' n.toNatClampNeg k.toNatClampNeg (defaultValue ty) x).pushCell (gm_in comp' k.toNatClampNeg (defaultValue ty))).heap[T1.heap.size]? = some c9 := by rw [State.heap_pushCell_of_lt (h := hlt0)]; exact hcell
    simp only [wp_bind', W.writeLoc, wp_pure']
    refine ⟨c9, hcell1, by rw [hcv]; exact (fun h => by cases h), by rw [hcs]; exact hlt, ?_, hnext _ _ _ ⟨x + 1, hlt, hrest, ?_⟩⟩
    · rw [hcc, hcv]
      have h9 : (((gm_f T1 cA comp' n.toNatClampNeg k.toNatClampNeg (defaultValue ty) x).pushCell (gm_in comp' k.toNatClampNeg (defaultValue ty))).setTop (F0 m pc ls rest)).vm = T1.vm := hvm
      simp [State.fitsSlot, State.slotType?, hvm, hkA₂, hkindA₁, fits]
    · show _ = (gm_nx _ _ _ _ _ _).setTop _
      unfold gm_nx
      rw [hcell]
      rfl
  · rintro u d' acts' ⟨i, hi, hl, rfl⟩
    have hiN : i = n.toNatClampNeg := by
      rcases Nat.lt_or_ge i n.toNatClampNeg with h | h
      · rw [show n.toNatClampNeg - i = (n.toNatClampNeg - (i + 1)) + 1 from by omega, List.range'_succ] at hl
        cases hl
      · omega
    subst hiN
    simp only [wp_pure', wp_bind', W.mark, W.pushRef, State.topJava?_setTop' _ XF.here.top, Option.some.injEq, exists_eq_left', State.setTop_setTop, State.heap_setTop]
    intro acts
    simp [jvm, XF.here.top]
    rw [hT1h]
    exact a1
end GM
