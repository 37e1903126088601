abbrev clx : List vw_C := [(RX0, TX0, 3), (RX1, TX1, 6), (RX2, TX2, 4), (RX3, TX3, 13), (RX4, TX4, 17), (RX5, TX5, 5), (RX6, TX6, 11), (RX7, TX7, 1), (RX8, TX8, 4), (RX9, TX9, 6), (RX10, TX10, 4), (RX11, TX11, 16), (RX12, TX12, 2), (RX13, TX13, 3), (RX14, TX14, 5), (RX15, TX15, 74)]
abbrev nIOO : String := "java/lang/IndexOutOfBoundsException"
abbrev nIAE : String := "java/lang/IllegalArgumentException"
/-- what the tables say beside wU's words: links between nest mates, arrays of references, casts, texts -/
def ev (U : State) : Prop :=
  (va_Nw (.methodLinkNest RX15 9 yX13_init RX15) U ∧ va_Nw (.methodLinkNest RX15 76 yX14_init RX15) U ∧ va_Nw (.methodLinkNest RX15 83 yX12_init RX15) U ∧ va_Nw (.methodLinkNest RX12 9 yX13_init RX15) U ∧ va_Nw (.methodLinkNest RX14 9 yX12_init RX15) U) ∧
  (va_AO RX2 U ∧ va_AO RX9 U) ∧ ((Cond.arrayOver (.array .int)).before #[] U = true ∧ (Cond.arrayOver (.array .long)).before #[] U = true) ∧
  (va_Nw (.castable nIOO nIOO) U ∧ va_Nw (.castable nIAE nIAE) U) ∧
  ((∃ a, vk_R RX11 369 "no such cubic" a U) ∧ (∃ a, vk_R RX11 377 "no such point" a U) ∧ (∃ a, vk_R RX11 274 "the latest search has no such one" a U) ∧ ∃ a, vk_R RX11 95 "a or b is beyond 10,000" a U)
theorem ev_AOA {t : FieldType} {u U : State} (hvm : u.vm.Alike U.vm) (h : (Cond.arrayOver (.array t)).before #[] u = true) : (Cond.arrayOver (.array t)).before #[] U = true := by
  obtain ⟨comp, c, k, h1, h2, h3, h4, h5⟩ := arrayOverA_spec h
  obtain ⟨k', hk', he⟩ := hvm.2.2 _ _ h3
  have hi : (U.vm.classes.findIdx? fun (x : Class) => match x.kind with | .array component _ => component == comp | _ => false) = some c := by
    rw [hvm.findIdx?_eq _ (fun _ => rfl)]
    exact h2
  have hkind : k'.kind = .array comp (.array t) := by rw [he]; exact h4
  have f1 : U.vm.findClass (FieldType.array t).toString = some comp := by rw [hvm.findClass]; exact h1
  have f2 : U.vm.findClass ("[" ++ (FieldType.array t).toString) = some c := by rw [hvm.findClass]; exact h5
  unfold Cond.before Cond.holds
  simp only [Cond.value]
  rw [f1, Option.bind_some]
  refine (congrArg (fun o : Option Nat => (o.bind (fun c => (U.vm.classes[c]?).map fun (k : Class) => match k.kind with | .array _ ty => decide (ty = FieldType.array t) && decide (U.vm.findClass ("[" ++ (FieldType.array t).toString) = some c) | _ => false) == some true)) hi).trans ?_
  simp [hk', hkind, f2]
theorem ev.warm {s U : State} (hW : s.WarmedH U.vm) (h : ev s) : ev U := by
  obtain ⟨⟨a1, a2, a3, a4, a5⟩, ⟨b1, b2⟩, ⟨c1, c2⟩, ⟨d1, d2⟩, ⟨⟨_, e1⟩, ⟨_, e2⟩, ⟨_, e3⟩, ⟨_, e4⟩⟩⟩ := h
  exact ⟨⟨va_Nw.warmM hW a1, va_Nw.warmM hW a2, va_Nw.warmM hW a3, va_Nw.warmM hW a4, va_Nw.warmM hW a5⟩, ⟨b1.moved hW.alike, b2.moved hW.alike⟩, ⟨ev_AOA hW.alike c1, ev_AOA hW.alike c2⟩, ⟨va_Nw.warmC hW d1, va_Nw.warmC hW d2⟩, ⟨⟨_, vk_R.warm hW e1⟩, ⟨_, vk_R.warm hW e2⟩, ⟨_, vk_R.warm hW e3⟩, ⟨_, vk_R.warm hW e4⟩⟩⟩
theorem ev.calling {U : State} (g : JFrame) (mk : MethodId) (a : Array Value) (h : ev U) : ev (U.calling g mk a) := ev.warm (U := U.calling g mk a) (State.WarmedH.refl U) h
/-- the statics that a throw reads, apart from the cells that are new since sz -/
def zz (sz : Nat) (U : State) (H : Heap) : Prop := vx_Zq Bundle.tN "UNASSIGNED_STACK" Bundle.steD (nw sz) U H ∧ vx_Zq Bundle.tN "SUPPRESSED_SENTINEL" Bundle.listD (nw sz) U H
theorem zz.moved {sz : Nat} {u U : State} {H : Heap} (hvm : u.vm.Alike U.vm) (h : zz sz u H) : zz sz U H := ⟨vx_Zq.moved hvm h.1, vx_Zq.moved hvm h.2⟩
theorem zz.grown {sz : Nat} {U : State} {H H1 : Heap} (h : zz sz U H) (hs : sz ≤ H1.size) (hq : ∀ a : Nat, a < H.size → ¬ nw sz a → H1[a]? = H[a]?) : zz H1.size U H1 := ⟨(h.1.kept hq).narrow (fun q hq => Nat.le_trans hs hq), (h.2.kept hq).narrow (fun q hq => Nat.le_trans hs hq)⟩
/-- a method on the bench's object x: it reads, or throws -/
def tP (dC : Nat → ClassId) (dI : Nat → Nat → Nat) (ws : va_W) (sz : Nat) (av : List Value) : Array Value → State → Prop := va_Pc av (fun U => U.heap.size = sz ∧ va_P (dC, dI) clx ws U.heap ∧ va_K (dC, dI) clx [] U ∧ ev U ∧ zz sz U U.heap)
theorem tP_blind {dC : Nat → ClassId} {dI : Nat → Nat → Nat} {ws : va_W} {sz : Nat} {av : List Value} : FrameBlind (tP dC dI ws sz av) := fun a U g mk q => by
  obtain ⟨q0, q1, qP, qK, qE, qZ⟩ := q
  exact ⟨q0, q1, qP, va_K.moved (u := U) (U := U.calling g mk a) (Vm.Alike.refl U.vm) qK, qE.calling g mk a, zz.moved (u := U) (U := U.calling g mk a) (Vm.Alike.refl U.vm) qZ⟩
theorem tP_at {dC : Nat → ClassId} {dI : Nat → Nat → Nat} {ws : va_W} {H : Heap} {av : List Value} {s : State} (hP : va_P (dC, dI) clx ws H) (hK : va_K (dC, dI) clx [] s) (hE : ev s) (hZ : zz H.size s H) : ∀ U : State, U.heap = H → s.WarmedH U.vm → tP dC dI ws H.size av av.toArray U :=
  fun U hU hW => ⟨rfl, by rw [hU], by rw [hU]; exact hP, va_K.moved hW.alike hK, hE.warm hW, by rw [hU]; exact hZ.moved hW.alike⟩
/-- a method that wants a world and gives one, without throws -/
def mP (dC : Nat → ClassId) (dI : Nat → Nat → Nat) (ws : va_W) (tys : List (ClassId × FieldType)) (sz : Nat) (av : List Value) : Array Value → State → Prop := va_Pc av (fun U => U.heap.size = sz ∧ va_P (dC, dI) clx ws U.heap ∧ va_K (dC, dI) clx tys U ∧ va_D (fun _ => True) ws)
theorem mP_blind {dC : Nat → ClassId} {dI : Nat → Nat → Nat} {ws : va_W} {tys : List (ClassId × FieldType)} {sz : Nat} {av : List Value} : FrameBlind (mP dC dI ws tys sz av) := fun a U g mk q => by
  obtain ⟨q0, q1, qP, qK, qD⟩ := q
  exact ⟨q0, q1, qP, va_K.moved (u := U) (U := U.calling g mk a) (Vm.Alike.refl U.vm) qK, qD⟩
theorem mP_at {dC : Nat → ClassId} {dI : Nat → Nat → Nat} {ws : va_W} {tys : List (ClassId × FieldType)} {H : Heap} {av : List Value} {s : State} {A : Nat → Prop} (hP : va_P (dC, dI) clx ws H) (hK : va_K (dC, dI) clx tys s) (hD : va_D A ws) : ∀ U : State, U.heap = H → s.WarmedH U.vm → mP dC dI ws tys H.size av av.toArray U :=
  fun U hU hW => ⟨rfl, by rw [hU], by rw [hU]; exact hP, va_K.moved hW.alike hK, hD.weaken (fun _ _ _ _ => trivial)⟩
/-- a constructor whose object nobody looks at again -/
def JC (l : Launch) (y : MethodName) (wy : List Cond) (rm : Room) (ci : Nat) (fs : List Value) (As : List Value) (mc ms : Nat) : Prop :=
  ∀ (dC : Nat → ClassId) (dI : Nat → Nat → Nat) (h0 sz : Nat), Met l y wy rm (va_Pc (.ref h0 :: As) (fun U => U.heap.size = sz ∧ va_P (dC, dI) clx [(h0, .inr (ci, fs))] U.heap ∧ va_K (dC, dI) clx [] U ∧ ev U)) (va_Qv (S := Unit) (fun _ => True) (fun _ _ => True) (va_A [(h0, .inr (ci, fs))] sz)) mc ms (va_A [(h0, .inr (ci, fs))] sz)
/-- a constructor of whose object F is known -/
def KC (l : Launch) (y : MethodName) (wy : List Cond) (rm : Room) (ci : Nat) (fs : List Value) (As : List Value) (F : List Value → Prop) (mc ms : Nat) : Prop :=
  ∀ (dC : Nat → ClassId) (dI : Nat → Nat → Nat) (h0 sz : Nat), Met l y wy rm (va_Pc (.ref h0 :: As) (fun U => U.heap.size = sz ∧ va_P (dC, dI) clx [(h0, .inr (ci, fs))] U.heap ∧ va_K (dC, dI) clx [] U ∧ ev U)) (va_Qv (S := List Value) F (fun u t => va_P (dC, dI) clx [(h0, .inr (ci, u))] t.heap) (va_A [(h0, .inr (ci, fs))] sz)) mc ms (va_A [(h0, .inr (ci, fs))] sz)
theorem va_A1 {q sz a : Nat} {z : va_E} : va_A [(q, z)] sz a ↔ a = q ∨ sz ≤ a := by
  constructor
  · rintro (⟨k, x, h⟩ | h)
    · have hk : k < 1 := (List.getElem?_eq_some_iff.mp h).1
      rw [show k = 0 by omega] at h
      cases h
      exact Or.inl rfl
    · exact Or.inr h
  · rintro (rfl | h)
    · exact Or.inl ⟨0, z, rfl⟩
    · exact Or.inr h
section JK
variable {p : Program} {l : Launch} {e : Env} {R : Room} {s : State} {m : MethodId} {args : Array Value} {below : List Frame} {meth : Method} {c : Code} {H : Heap} {locs : List Loc} {cells slots : Nat} {Q : State → Prop}
variable {cc : ByteArray} {pc : Nat} {ls : Array Slot} {rest : List Value} {D : va_G} {cl : List vw_C} {A : Nat → Prop} {tys : List (ClassId × FieldType)} {ws : va_W} {H0 : Heap}
theorem px_kept {H1 : Heap} (hP : va_P D cl ws H) (hk : ∀ a : Nat, a < H.size → H1[a]? = H[a]?) : va_P D cl ws H1 := hP.kept (fun k q h => hk q.1 ((hP k q h).lt))
theorem px_S {H1 : Heap} (hS : va_S A H0 H locs) (hz : H.size ≤ H1.size) (hk : ∀ a : Nat, a < H.size → H1[a]? = H[a]?) : va_S A H0 H1 locs := ⟨Nat.le_trans hS.1 hz, fun x h1 h2 => (hk x (Nat.lt_of_lt_of_le h1 hS.1)).trans (hS.2.1 x h1 h2), hS.2.2⟩
theorem px_pk (x : Cell) : ∀ a : Nat, a < H.size → (H.push x)[a]? = H[a]? := fun a ha => by rw [Array.getElem?_push, if_neg (Nat.ne_of_lt ha)]
/-- rows that nobody looks at again -/
theorem px_newaJ (hexec : p.tables.exec = Jvm.exec) (hb : c.code = cc) {atype : ArrayType} (harr : (Cond.arrayClass (newarray.typeOf atype)).before args s = true) (hP : va_P D cl ws H) (hS : va_S A H0 H locs) {n : Int32} (N : Nat) (hn : ¬ n < 0) (hN : n.toNatClampNeg = N) (hbytes : N * componentBytes (newarray.typeOf atype) ≤ 536870912) (hcells : cells + 1 ≤ R.cells) (hslots : slots + N ≤ R.slots) (hdg : decode cc pc = .ok (.newarray atype, 2))
    (kk : ∀ (q : Nat) (H1 : Heap), va_P D cl ws H1 → va_S A H0 H1 locs → W p l e R s m args below meth c H1 locs (cells + 1) (slots + N) Q (F0 m (pc + 2) ls (.ref q :: rest))) : W p l e R s m args below meth c H locs cells slots Q (F0 m pc ls (.int n :: rest)) := by
  refine va_newaK hexec hb harr rfl hdg rfl hn hN hbytes hcells hslots rfl fun H1 cA e1 z1 o1 hAr hNm => ?_
  exact kk _ H1 (px_kept hP o1) (px_S hS (by omega) o1)
theorem px_anewJ (hexec : p.tables.exec = Jvm.exec) (hb : c.code = cc) {own C : String} {index : Nat} (hown : s.vm.findClass own = some m.cls) (hclink : (Cond.classLink own index C).before args s = true) (hover : va_AO C s) (hP : va_P D cl ws H) (hS : va_S A H0 H locs) {n : Int32} (N : Nat) (hn : ¬ n < 0) (hN : n.toNatClampNeg = N) (hbytes : N * 4 ≤ 536870912) (hcells : cells + 1 ≤ R.cells) (hslots : slots + N ≤ R.slots) (hdg : decode cc pc = .ok (.anewarray index, 3))
    (kk : ∀ (q : Nat) (H1 : Heap), va_P D cl ws H1 → va_S A H0 H1 locs → W p l e R s m args below meth c H1 locs (cells + 1) (slots + N) Q (F0 m (pc + 3) ls (.ref q :: rest))) : W p l e R s m args below meth c H locs cells slots Q (F0 m pc ls (.int n :: rest)) := by
  subst hN
  refine W.anew hexec hb hown hclink (va_AO.use hover) rfl hdg rfl hn hbytes hcells hslots fun cA kA comp f1 f2 f3 f4 => ?_
  exact kk _ _ (px_kept hP (px_pk _)) (px_S hS (by rw [Array.size_push]; omega) (px_pk _))
theorem px_anewA (hexec : p.tables.exec = Jvm.exec) (hb : c.code = cc) {own : String} {index : Nat} {t : FieldType} (hown : s.vm.findClass own = some m.cls) (hclink : (Cond.classLink own index (FieldType.array t).toString).before args s = true) (hover : (Cond.arrayOver (.array t)).before #[] s = true) (hP : va_P D cl ws H) (hS : va_S A H0 H locs) {n : Int32} (N : Nat) (hn : ¬ n < 0) (hN : n.toNatClampNeg = N) (hbytes : N * 4 ≤ 536870912) (hcells : cells + 1 ≤ R.cells) (hslots : slots + N ≤ R.slots) (hdg : decode cc pc = .ok (.anewarray index, 3))
    (kk : ∀ (q : Nat) (H1 : Heap), va_P D cl ws H1 → va_S A H0 H1 locs → W p l e R s m args below meth c H1 locs (cells + 1) (slots + N) Q (F0 m (pc + 3) ls (.ref q :: rest))) : W p l e R s m args below meth c H locs cells slots Q (F0 m pc ls (.int n :: rest)) := by
  subst hN
  refine W.anewA hexec hb hown hclink hover rfl hdg rfl hn hbytes hcells hslots fun cA kA comp f1 f2 f3 f4 => ?_
  exact kk _ _ (px_kept hP (px_pk _)) (px_S hS (by rw [Array.size_push]; omega) (px_pk _))
theorem px_new {own C : String} {T : u_T} {N ci index : Nat} {Ts : List Cond} (hexec : p.tables.exec = Jvm.exec) (hb : c.code = cc) (hts : ∀ w ∈ Ts, w.before args s = true) (hin : ∀ w ∈ u_ws C T N, w ∈ Ts) (ty : Nat → FieldType) (hty : ∀ k, k < N → parseFieldDescriptor (T k).2.2.1 = some (ty k)) (hown : s.vm.findClass own = some m.cls) (hcl : (Cond.classLink own index C).before args s = true) (hinst : (Cond.instantiable C N).before args s = true) (hini : (Cond.initialized C).before args s = true)
    (hK : va_K D cl tys s) (hP : va_P D cl ws H) (hS : va_S A H0 H locs) (hc : cl[ci]? = some (C, T, N)) {fs : List Value} (hfs : ∀ j, j < N → defaultValue (ty j) = vp_V fs j) (hcells : cells + 1 ≤ R.cells) (hslots : slots + N ≤ R.slots) (hdg : decode cc pc = .ok (.new index, 3))
    (kk : ∀ (q : Nat) (H1 : Heap), va_P D cl ws H1 → va_P D cl [(q, .inr (ci, fs))] H1 → (∀ (k : Nat) (x : Nat × va_E), ws[k]? = some x → x.1 < q) → H0.size ≤ q → va_S A H0 H1 locs → W p l e R s m args below meth c H1 locs (cells + 1) (slots + N) Q (F0 m (pc + 3) ls (.ref q :: rest))) : W p l e R s m args below meth c H locs cells slots Q (F0 m pc ls rest) := by
  have hKn := hK.1 ci _ hc
  refine W.newcK hexec hb hown hcl hinst hini rfl hdg hcells hslots hKn.2.1 rfl fun H1 kC hkC e1 z1 o1 => ?_
  refine kk H.size H1 (px_kept hP o1) (fun k x hx => ?_) (fun k x hx => (hP k x hx).lt) hS.1 (px_S hS (by omega) o1)
  have hz : k < 1 := (List.getElem?_eq_some_iff.mp hx).1
  rw [show k = 0 by omega] at hx
  cases hx
  exact ⟨_, hc, (u_born ty hts hin hKn hkC e1 hty).to hfs⟩
theorem px_initP {dC : Nat → ClassId} {dI : Nat → Nat → Nat} {q ci : Nat} {fs As : List Value} (hK : va_K (dC, dI) clx [] s) (hE : ev s) (hq : va_P (dC, dI) clx [(q, .inr (ci, fs))] H) : PreS s H (va_Pc (.ref q :: As) (fun U => U.heap.size = H.size ∧ va_P (dC, dI) clx [(q, .inr (ci, fs))] U.heap ∧ va_K (dC, dI) clx [] U ∧ ev U)) (.ref q :: As) :=
  ⟨fun a U g mk z => by obtain ⟨q0, q1, qP, qK, qE⟩ := z; exact ⟨q0, q1, qP, va_K.moved (u := U) (U := U.calling g mk a) (Vm.Alike.refl U.vm) qK, qE.calling g mk a⟩, fun U hU hW => ⟨rfl, by rw [hU], by rw [hU]; exact hq, va_K.moved hW.alike hK, hE.warm hW⟩⟩
variable {y : MethodName} {bytes : ByteArray} {maxL nL mc ms n index : Nat} {wy Ts : List Cond} {rm : Room} {own : String}
theorem px_initJ0 {dC : Nat → ClassId} {dI : Nat → Nat → Nat} {q ci : Nat} {fs As : List Value} {free : Addr → Prop} (hr : va_Run p l e R s m args below meth c H locs cells slots mc ms (F0 m pc ls (As.reverse ++ .ref q :: rest)) rest (va_Qv (S := Unit) (fun _ => True) (fun _ _ => True) (va_A [(q, .inr (ci, fs))] H.size) (Value.ref q :: As).toArray) (va_A [(q, .inr (ci, fs))] H.size))
    (hP : va_P (dC, dI) clx ws H) (hlt : ∀ (k : Nat) (x : Nat × va_E), ws[k]? = some x → x.1 < q) (hq0 : H0.size ≤ q) (hS : va_S A H0 H locs) (hA : ∀ q, H0.size ≤ q → A q)
    (kk : ∀ (H1 : Heap) (locs1 : List Loc), va_P (dC, dI) clx ws H1 → va_S A H0 H1 locs1 → W p l e R s m args below meth c H1 locs1 (cells + mc) (slots + ms) Q (F0 m (pc + 3) ls rest)) : W p l e R s m args below meth c H locs cells slots Q (F0 m pc ls (As.reverse ++ .ref q :: rest)) := by
  have hF : ∀ a, va_A [(q, .inr (ci, fs))] H.size a → A a := fun a h => (va_A1.mp h).elim (fun z => by rw [z]; exact hA q hq0) (fun z => hA a (Nat.le_trans hS.1 z))
  refine va_callv hr hS (fun a _ h => hF a h) hF (fun u t H1 locs1 ht hvm hw hB hz1 hk1 hS1 => ?_)
  exact kk H1 locs1 (hP.kept (fun k x hx => hk1 x.1 ((hP k x hx).lt) (fun h => (va_A1.mp h).elim (fun z => Nat.lt_irrefl _ (z ▸ hlt k x hx)) (fun z => Nat.lt_irrefl _ (Nat.lt_of_lt_of_le ((hP k x hx).lt) z))))) hS1
theorem px_initJ {dC : Nat → ClassId} {dI : Nat → Nat → Nat} {q ci : Nat} {fs As : List Value} (hJ : JC l y wy rm ci fs As mc ms) (S : CallFix p m c cc nL s args Ts own) (cw : CallB R s args own index y bytes maxL none wy rm mc ms n ∧ y.name = "<init>" ∧ (Cond.instanceMethod y).before args s = true)
    (hK : va_K (dC, dI) clx [] s) (hE : ev s) (hP : va_P (dC, dI) clx ws H) (hq : va_P (dC, dI) clx [(q, .inr (ci, fs))] H) (hlt : ∀ (k : Nat) (x : Nat × va_E), ws[k]? = some x → x.1 < q) (hq0 : H0.size ≤ q) (hS : va_S A H0 H locs) (hA : ∀ q, H0.size ≤ q → A q) (hn : As.length = n) (hsize : ls.size = nL) (hW : (rest.map fun v => v.category).sum ≤ 8) (hdg : decode cc pc = .ok (.invokespecial index, 3)) (hf : cells + mc ≤ R.cells ∧ slots + ms ≤ R.slots)
    (kk : ∀ (H1 : Heap) (locs1 : List Loc), va_P (dC, dI) clx ws H1 → va_S A H0 H1 locs1 → W p l e R s m args below meth c H1 locs1 (cells + mc) (slots + ms) Q (F0 m (pc + 3) ls rest)) : W p l e R s m args below meth c H locs cells slots Q (F0 m pc ls (As.reverse ++ .ref q :: rest)) :=
  px_initJ0 (free := fun _ => True) (va_runI (As := As) (rest := rest) S (hJ dC dI q H.size) cw (px_initP hK hE hq) rfl hn hsize rfl (lv_room hW) hdg hf) hP hlt hq0 hS hA kk
theorem px_initN {dC : Nat → ClassId} {dI : Nat → Nat → Nat} {q ci : Nat} {fs As : List Value} {host : String} (hJ : JC l y wy rm ci fs As mc ms) (S : CallFix p m c cc nL s args Ts own) (cw : va_CN R s args own index y host bytes maxL none wy rm mc ms n ∧ y.name = "<init>" ∧ (Cond.instanceMethod y).before args s = true)
    (hK : va_K (dC, dI) clx [] s) (hE : ev s) (hP : va_P (dC, dI) clx ws H) (hq : va_P (dC, dI) clx [(q, .inr (ci, fs))] H) (hlt : ∀ (k : Nat) (x : Nat × va_E), ws[k]? = some x → x.1 < q) (hq0 : H0.size ≤ q) (hS : va_S A H0 H locs) (hA : ∀ q, H0.size ≤ q → A q) (hn : As.length = n) (hsize : ls.size = nL) (hW : (rest.map fun v => v.category).sum ≤ 8) (hdg : decode cc pc = .ok (.invokespecial index, 3)) (hf : cells + mc ≤ R.cells ∧ slots + ms ≤ R.slots)
    (kk : ∀ (H1 : Heap) (locs1 : List Loc), va_P (dC, dI) clx ws H1 → va_S A H0 H1 locs1 → W p l e R s m args below meth c H1 locs1 (cells + mc) (slots + ms) Q (F0 m (pc + 3) ls rest)) : W p l e R s m args below meth c H locs cells slots Q (F0 m pc ls (As.reverse ++ .ref q :: rest)) :=
  px_initJ0 (free := fun _ => True) (va_runIN (As := As) (rest := rest) S (hJ dC dI q H.size) cw (px_initP hK hE hq) rfl hn hsize rfl (lv_room hW) hdg hf) hP hlt hq0 hS hA kk
theorem px_initK {dC : Nat → ClassId} {dI : Nat → Nat → Nat} {q ci : Nat} {fs As : List Value} {F : List Value → Prop} (hJ : KC l y wy rm ci fs As F mc ms) (S : CallFix p m c cc nL s args Ts own) (cw : CallB R s args own index y bytes maxL none wy rm mc ms n ∧ y.name = "<init>" ∧ (Cond.instanceMethod y).before args s = true)
    (hK : va_K (dC, dI) clx [] s) (hE : ev s) (hP : va_P (dC, dI) clx ws H) (hD : va_D A ws) (hq : va_P (dC, dI) clx [(q, .inr (ci, fs))] H) (hlt : ∀ (k : Nat) (x : Nat × va_E), ws[k]? = some x → x.1 < q) (hq0 : H0.size ≤ q) (hS : va_S A H0 H locs) (hA : ∀ q, H0.size ≤ q → A q) (hn : As.length = n) (hsize : ls.size = nL) (hW : (rest.map fun v => v.category).sum ≤ 8) (hdg : decode cc pc = .ok (.invokespecial index, 3)) (hf : cells + mc ≤ R.cells ∧ slots + ms ≤ R.slots)
    (kk : ∀ (u : List Value) (H1 : Heap) (locs1 : List Loc), F u → va_P (dC, dI) clx (ws ++ [(q, .inr (ci, u))]) H1 → va_D A (ws ++ [(q, .inr (ci, u))]) → va_S A H0 H1 locs1 → W p l e R s m args below meth c H1 locs1 (cells + mc) (slots + ms) Q (F0 m (pc + 3) ls rest)) : W p l e R s m args below meth c H locs cells slots Q (F0 m pc ls (As.reverse ++ .ref q :: rest)) := by
  have hF : ∀ a, va_A [(q, .inr (ci, fs))] H.size a → A a := fun a h => (va_A1.mp h).elim (fun z => by rw [z]; exact hA q hq0) (fun z => hA a (Nat.le_trans hS.1 z))
  refine va_callv (va_runI (As := As) (rest := rest) S (hJ dC dI q H.size) cw (px_initP hK hE hq) rfl hn hsize rfl (lv_room hW) hdg hf) hS (fun a _ h => hF a h) hF (fun u t H1 locs1 ht hvm hw hB hz1 hk1 hS1 => ?_)
  have hP1 : va_P (dC, dI) clx ws H1 := hP.kept (fun k x hx => hk1 x.1 ((hP k x hx).lt) (fun h => (va_A1.mp h).elim (fun z => Nat.lt_irrefl _ (z ▸ hlt k x hx)) (fun z => Nat.lt_irrefl _ (Nat.lt_of_lt_of_le ((hP k x hx).lt) z))))
  rw [ht] at hB
  refine kk u H1 locs1 hw (hP1.app hB) (va_D.app hD ⟨fun i j x y hi hj _ => ?_, fun k x hx => ?_⟩ (fun i j x y hi hj h => ?_)) hS1
  · have h1 : i < 1 := (List.getElem?_eq_some_iff.mp hi).1
    have h2 : j < 1 := (List.getElem?_eq_some_iff.mp hj).1
    omega
  · have h1 : k < 1 := (List.getElem?_eq_some_iff.mp hx).1
    rw [show k = 0 by omega] at hx
    cases hx
    exact hA q hq0
  · have h1 : j < 1 := (List.getElem?_eq_some_iff.mp hj).1
    rw [show j = 0 by omega] at hj
    cases hj
    exact Nat.lt_irrefl _ (h ▸ hlt i x hi)
end JK
