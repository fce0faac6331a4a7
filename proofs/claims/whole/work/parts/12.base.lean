/-! What every contract here carries: the words of the tables that stay true as they warm, the numbers of the classes, the statics. -/
/-- the classes' numbers and slots; the classes of byte[], int[], long[] -/
abbrev pc_G : Type := va_G × ClassId × ClassId × ClassId
abbrev pc_ty (g : pc_G) : List (ClassId × FieldType) := [(g.2.1, .byte), (g.2.2.1, .int), (g.2.2.2, .long)]
theorem pc_warm {w : Cond} (hw : pc_ok w = true) {a a' : Array Value} {s U : State} (hW : s.WarmedH U.vm) (h : w.before a s = true) : w.before a' U = true := by
  cases w <;> first
    | exact word_at hW (good_of_word hw) h
    | exact va_Nw.use rfl (va_Nw.warmF hW (va_Nw.of rfl h))
    | exact va_Nw.use rfl (va_Nw.warmM hW (va_Nw.of rfl h))
    | exact va_Nw.use rfl (va_Nw.warmC hW (va_Nw.of rfl h))
/-- the constructors above an exception's -/
def pc_D : List MethodName := [⟨"java/lang/RuntimeException", "<init>", "()V"⟩, ⟨"java/lang/Exception", "<init>", "()V"⟩, ⟨"java/lang/Throwable", "<init>", "()V"⟩]
def pc_TB (U : State) : Prop := (∀ w ∈ pc_T, w.before #[] U = true) ∧ (∀ x ∈ pc_D, va_Nw (.declares x) U) ∧ va_Nc "java/lang/IllegalStateException" "java/lang/IllegalArgumentException" U
theorem pc_TB.at {s U : State} (h : pc_TB s) (hW : s.WarmedH U.vm) {w : Cond} (hw : w ∈ pc_T) (a : Array Value) : w.before a U = true :=
  pc_warm (List.mem_filter.mp hw).2 hW (h.1 w hw)
theorem pc_TB.moved {s U : State} (h : pc_TB s) (hW : s.WarmedH U.vm) : pc_TB U := ⟨fun _ hw => h.at hW hw _, fun x hx => va_Nw.warmD hW (h.2.1 x hx), h.2.2.moved hW.alike⟩
/-- the table of half bytes -/
def pc_half : List Int32 := [0, 498536548, 997073096, 651767980, 1994146192, 1802195444, 1303535960, 1342533948, -306674912, -267414716, -690576408, -882789492, -1687895376, -2032938284, -1609899400, -1111625188]
/-- a static field that holds null or a reference: where it lies -/
def pc_L (C n d : String) (A : Nat → Prop) (U : State) (H : Heap) : Prop := ∃ (c : ClassId) (k : Class) (i : Nat) (f : Field) (a : Nat) (cell : Cell) (v : Value), (U.vm.findClass C = some c ∧ U.fieldFound? C n d = some (c, k, i, f) ∧ f.isStatic = true ∧ k.statics = some a ∧ k.staticTypes[f.slot]? = some f.type) ∧ H[a]? = some cell ∧ (cell.vm.isStatics = true ∧ cell.cls = c ∧ f.slot < cell.slots.size ∧ cell.slots[f.slot]? = some v ∧ v.isRef = true) ∧ ¬ A a
theorem pc_L.step {C n d : String} {A0 A1 : Nat → Prop} {s U : State} {H0 H : Heap} (h : pc_L C n d A0 s H0) (hk : ∀ q : Nat, q < H0.size → ¬ A0 q → H[q]? = H0[q]?) (hn : ∀ q, A1 q → A0 q) (hvm : s.vm.Alike U.vm) : pc_L C n d A1 U H := by
  obtain ⟨c, k, i, f, a, cell, v, ⟨h1, h2, h3, h4, h5⟩, h6, h7, h8⟩ := h
  obtain ⟨k', hi', he⟩ := State.fieldFound?_setVm hvm h2
  exact ⟨c, k', i, f, a, cell, v, ⟨by rw [hvm.findClass]; exact h1, hi', h3, by rw [he]; exact h4, by rw [he]; exact h5⟩, by rw [hk a (Array.getElem?_eq_some_iff.mp h6).1 h8]; exact h6, h7, fun z => h8 (hn a z)⟩
theorem pc_L.lays {C n d : String} {A : Nat → Prop} {s : State} {a : Array Value} (h : pc_L C n d A s s.heap) : (Cond.laysStatic C n d).before a s = true := by
  obtain ⟨c, k, i, f, b, cell, v, ⟨h1, h2, h3, h4, h5⟩, h6, ⟨g1, g2, g3, g4, g5⟩, h8⟩ := h
  show (Cond.laysStatic C n d).holds a s none s [] = true
  exact Cond.laysStatic_of h1 h2 h3 h4 h6 g1 g2 g3 h5
theorem pc_L.ref {C n d : String} {A : Nat → Prop} {s : State} {a : Array Value} (h : pc_L C n d A s s.heap) : (Cond.isRef (.static C n d)).before a s = true := by
  obtain ⟨c, k, i, f, b, cell, v, ⟨h1, h2, h3, h4, h5⟩, h6, ⟨g1, g2, g3, g4, g5⟩, h8⟩ := h
  have he : (Term.static C n d).eval a s none [] s = some v := by simp [Term.eval, State.fieldNamed?, h2, h3, h4, h6, g1, g4]
  simp only [Cond.before, Cond.holds, Cond.value, he]
  cases v <;> simp_all [Value.isRef]
theorem pc_L.of {C n d : String} {A : Nat → Prop} {s : State} {a : Array Value} (hl : (Cond.laysStatic C n d).before a s = true) (hr : (Cond.isRef (.static C n d)).before a s = true) (hA : ∀ q : Nat, q < s.heap.size → ¬ A q) : pc_L C n d A s s.heap := by
  obtain ⟨c, k, i, f, b, cell, h1, h2, h3, h4, h6, g1, g2, g3, h5⟩ := Cond.laysStatic_spec hl
  cases hv : (Term.static C n d).eval a s none [] s with
  | none => simp [Cond.before, Cond.holds, Cond.value, hv] at hr
  | some v =>
    obtain ⟨hst', a', cell', ha', hcell', -, hslot⟩ := Term.static_spec h2 hv
    cases h4.symm.trans ha'
    cases h6.symm.trans hcell'
    refine ⟨c, k, i, f, b, cell, v, ⟨h1, h2, h3, h4, h5⟩, h6, ⟨g1, g2, g3, hslot, ?_⟩, hA b (Array.getElem?_eq_some_iff.mp h6).1⟩
    simp only [Cond.before, Cond.holds, Cond.value, hv] at hr
    cases v <;> simp_all [Value.isRef]
/-- the statics that are read -/
def pc_St (A : Nat → Prop) (U : State) (H : Heap) : Prop := pc_L Bundle.tN "UNASSIGNED_STACK" Bundle.steD A U H ∧ pc_L Bundle.tN "SUPPRESSED_SENTINEL" Bundle.listD A U H ∧ ∃ t : Nat, va_Z R_Crc "HALF_BYTES" "[I" (.ref t) A U H ∧ va_T .int t 16 (fun j => .int (pc_half.getD j 0)) A U H
theorem pc_St.step {A0 A1 : Nat → Prop} {s U : State} {H0 H : Heap} (h : pc_St A0 s H0) (hk : ∀ q : Nat, q < H0.size → ¬ A0 q → H[q]? = H0[q]?) (hn : ∀ q, A1 q → A0 q) (hvm : s.vm.Alike U.vm) : pc_St A1 U H := by
  obtain ⟨h1, h2, t, h3, h4⟩ := h
  exact ⟨h1.step hk hn hvm, h2.step hk hn hvm, t, ((h3.kept hk).narrow hn).moved hvm, ((h4.kept hk).narrow hn).moved hvm⟩
def pc_E (g : pc_G) (A : Nat → Prop) (U : State) (H : Heap) : Prop := pc_TB U ∧ va_K g.1 pc_cl (pc_ty g) U ∧ pc_St A U H
theorem pc_E.step {g : pc_G} {A0 A1 : Nat → Prop} {s U : State} {H0 H : Heap} (h : pc_E g A0 s H0) (hk : ∀ q : Nat, q < H0.size → ¬ A0 q → H[q]? = H0[q]?) (hn : ∀ q, A1 q → A0 q) (hW : s.WarmedH U.vm) : pc_E g A1 U H :=
  ⟨h.1.moved hW, h.2.1.moved hW.alike, h.2.2.step hk hn hW.alike⟩
/-- any word of the tables, here -/
theorem pc_E.w {g : pc_G} {A : Nat → Prop} {s : State} {H : Heap} (h : pc_E g A s H) {w : Cond} (hw : w ∈ pc_T) {a : Array Value} : w.before a s = true := h.1.at (State.WarmedH.refl s) hw a
theorem pc_E.hts {g : pc_G} {A : Nat → Prop} {s : State} {H : Heap} (h : pc_E g A s H) {a : Array Value} : ∀ w ∈ pc_T, w.before a s = true := fun _ hw => h.w hw
/-- how a method begins: its arguments, its world, the rest -/
def pc_Pre (g : pc_G) (W : va_W) (sz : Nat) (av : List Value) : Array Value → State → Prop := va_Pc av (fun U => U.heap.size = sz ∧ va_P g.1 pc_cl W U.heap ∧ va_D (fun _ => True) W ∧ pc_E g (va_A W sz) U U.heap)
theorem pc_blind {g : pc_G} {W : va_W} {sz : Nat} {av : List Value} : FrameBlind (pc_Pre g W sz av) := fun a U gf mk h => by
  obtain ⟨h0, h1, h2, h3, h4⟩ := h
  have hW : U.WarmedH (U.calling gf mk a).vm := State.WarmedH.refl U
  exact ⟨h0, h1, h2, h3, h4.step (fun _ _ _ => rfl) (fun _ z => z) hW⟩
/-- how it ends: the world behind it -/
def pc_B {S : Type} (g : pc_G) (A : Nat → Prop) (Wf : S → va_W) : S → State → Prop := fun u t => va_P g.1 pc_cl (Wf u) t.heap ∧ va_D A (Wf u)
/-- the contract of a method that answers an int (or a boolean, byte ..) -/
def pc_Ci {S : Type} (l : Launch) (y : MethodName) (cc : ByteArray) (nL : Nat) (rt : FieldType) (rm : Room) (g : pc_G) (W : va_W) (av : List Value) (post : Int32 → S → Prop) (Wf : S → va_W) : Prop :=
  ∀ sz : Nat, Met l y [.code y cc nL (some rt)] rm (pc_Pre g W sz av) (va_Qi post (pc_B g (va_A W sz) Wf) (va_A W sz)) rm.cells rm.slots (va_A W sz)
/-- .. that answers nothing -/
def pc_Cv {S : Type} (l : Launch) (y : MethodName) (cc : ByteArray) (nL : Nat) (rm : Room) (g : pc_G) (W : va_W) (av : List Value) (post : S → Prop) (Wf : S → va_W) : Prop :=
  ∀ sz : Nat, Met l y [.code y cc nL none] rm (pc_Pre g W sz av) (va_Qv post (pc_B g (va_A W sz) Wf) (va_A W sz)) rm.cells rm.slots (va_A W sz)
theorem pc_Ci.of {S : Type} {l : Launch} {y : MethodName} {cc : ByteArray} {nL : Nat} {rt : FieldType} {rm : Room} {g : pc_G} {W0 : va_W} {av : List Value} {post : Int32 → S → Prop} {Wf : S → va_W} (hy : plainName y.cls = true) (hav : (lg_sl av).length ≤ nL)
    (body : ∀ (p : Program) (e : Env) (s : State) (m : MethodId) (below : List Frame) (meth : Method) (c : Code) (A : Nat → Prop) (Q : State → Prop), p.tables.exec = Jvm.exec → c.code = cc → c.maxLocals = nL → s.vm.findClass y.cls = some m.cls → pc_E g A s s.heap → (∀ q, s.heap.size ≤ q → A q) →
      (∀ (H : Heap) (locs : List Loc) (pc : Nat) (ls : Array Slot) (v : Int32) (u : S), decode cc pc = .ok (.ireturn, 1) → narrow rt (.int v) = .int v → post v u → va_P g.1 pc_cl (Wf u) H → va_D A (Wf u) → va_S A s.heap H locs → W p l e rm s m av.toArray below meth c H locs rm.cells rm.slots Q (F0 m pc ls [.int v])) →
      va_P g.1 pc_cl W0 s.heap → va_D A W0 → ∀ ls : Array Slot, lv_has ls nL (lv_args 0 av) → W p l e rm s m av.toArray below meth c s.heap [] 0 0 Q (F0 m 0 ls [])) : pc_Ci l y cc nL rt rm g W0 av post Wf := by
  intro sz
  refine Met.ofW (cc := cc) (maxL := nL) (ret := some rt) hy rfl ?_
  intro p e s m args below meth c s₁ B hml hv
  obtain ⟨rfl, hsz, hP, hD, hE⟩ := hv
  subst hsz
  have hl := lv_entry av (n := nL) hav
  rw [lg_entry_eq]
  have hlocks := B.notSynchronized
  refine body p e s m below meth c (va_A W0 s.heap.size) _ B.exec B.bytes hml (findClass_of_methodNamed B.named) hE (fun q h => Or.inr h) ?_ hP hD.self _ hl
  intro H locs pc ls v u hdg hn hp hP1 hD1 hS
  exact W.zret B.exec B.bytes B.returns hn (fun t ht _ => ⟨⟨v, u, rfl, hp, by rw [pc_B, ht]; exact ⟨hP1, hD1⟩⟩, hS.F ht⟩) hS.2.2 hdg
theorem pc_Cv.of {S : Type} {l : Launch} {y : MethodName} {cc : ByteArray} {nL : Nat} {rm : Room} {g : pc_G} {W0 : va_W} {av : List Value} {post : S → Prop} {Wf : S → va_W} (hy : plainName y.cls = true) (hav : (lg_sl av).length ≤ nL)
    (body : ∀ (p : Program) (e : Env) (s : State) (m : MethodId) (below : List Frame) (meth : Method) (c : Code) (A : Nat → Prop) (Q : State → Prop), p.tables.exec = Jvm.exec → c.code = cc → c.maxLocals = nL → s.vm.findClass y.cls = some m.cls → pc_E g A s s.heap → (∀ q, s.heap.size ≤ q → A q) → (∀ x, y.name = x → meth.name = x) →
      (∀ (H : Heap) (locs : List Loc) (pc : Nat) (ls : Array Slot) (u : S), decode cc pc = .ok (.return_, 1) → post u → va_P g.1 pc_cl (Wf u) H → va_D A (Wf u) → va_S A s.heap H locs → W p l e rm s m av.toArray below meth c H locs rm.cells rm.slots Q (F0 m pc ls [])) →
      va_P g.1 pc_cl W0 s.heap → va_D A W0 → ∀ ls : Array Slot, lv_has ls nL (lv_args 0 av) → W p l e rm s m av.toArray below meth c s.heap [] 0 0 Q (F0 m 0 ls [])) : pc_Cv l y cc nL rm g W0 av post Wf := by
  intro sz
  refine Met.ofW (cc := cc) (maxL := nL) (ret := none) hy rfl ?_
  intro p e s m args below meth c s₁ B hml hv
  obtain ⟨rfl, hsz, hP, hD, hE⟩ := hv
  subst hsz
  have hl := lv_entry av (n := nL) hav
  rw [lg_entry_eq]
  have hlocks := B.notSynchronized
  refine body p e s m below meth c (va_A W0 s.heap.size) _ B.exec B.bytes hml (findClass_of_methodNamed B.named) hE (fun q h => Or.inr h) (fun x hx => (name_of_methodNamed B.named B.method).1.trans hx) ?_ hP hD.self _ hl
  intro H locs pc ls u hdg hp hP1 hD1 hS
  exact W.vret B.exec B.bytes B.returns (fun t ht _ => ⟨⟨u, rfl, hp, by rw [pc_B, ht]; exact ⟨hP1, hD1⟩⟩, hS.F ht⟩) hS.2.2 hdg
/-- new arrays hold zeros -/
theorem pc_z8 (cA : ClassId) (N : Nat) : vp_cell cA (N, .inl (bA (fun _ => 0))) = arrV cA N (fun _ => defaultValue .byte) := by
  rw [bA_0]
  exact vp_cell_i cA N (fun _ => 0)
theorem pc_z32 (cA : ClassId) (N : Nat) : vp_cell cA (N, .inl (fun _ => 0)) = arrV cA N (fun _ => defaultValue .int) := vp_cell_i cA N (fun _ => 0)
theorem pc_z64 (cA : ClassId) (N : Nat) : vp_cell cA (N, .inr (.inl (fun _ => 0))) = arrV cA N (fun _ => defaultValue .long) := vp_cell_l cA N (fun _ => 0)
section PCW
variable {p : Program} {l : Launch} {e : Env} {R : Room} {s : State} {m : MethodId} {args : Array Value} {below : List Frame} {meth : Method} {c : Code} {H : Heap} {locs : List Loc} {cells slots : Nat} {Q : State → Prop}
variable {pc : Nat} {ls : Array Slot} {rest st0 : List Value} {a : Array Value} {A : Nat → Prop} {mc ms : Nat} {g : pc_G} {ws wc wr : va_W} {cc : ByteArray}
theorem pc_fm {α β : Type} {f : α → Option β} : ∀ {is : List α} {w : List β}, is.map f = w.map some → is.filterMap f = w
  | [], [], _ => rfl
  | [], _ :: _, h => by simp at h
  | _ :: _, [], h => by simp at h
  | i :: is, b :: w, h => by
    simp only [List.map_cons, List.cons.injEq] at h
    rw [List.filterMap_cons, h.1, pc_fm h.2]
/-- the callee's start out of the caller's world: the cells at isC -/
theorem pc_pre (hP : va_P g.1 pc_cl ws H) (hD : va_D A ws) (hE : pc_E g A s s.heap) (hS : va_S A s.heap H locs) (hA : ∀ q, s.heap.size ≤ q → A q) (isC : List Nat) (hn : va_nd isC = true) (hC : isC.map (fun i => ws[i]?) = wc.map some) (av : List Value) : PreS s H (pc_Pre g wc H.size av) av := by
  refine ⟨pc_blind, fun U hU hW => ⟨rfl, by rw [hU], ?_, ?_, ?_⟩⟩
  · rw [hU]; exact hP.sub isC (pc_fm hC)
  · exact (hD.sub isC hn hC).weaken (fun _ _ _ _ => trivial)
  · rw [hU]; exact hE.step hS.2.1 (va_free hD hS hA isC hC) hW
theorem pc_preV (hP : va_P g.1 pc_cl ws H) (hD : va_D A ws) (hE : pc_E g A s s.heap) (hS : va_S A s.heap H locs) (hA : ∀ q, s.heap.size ≤ q → A q) (isC : List Nat) (hn : va_nd isC = true) (hC : isC.map (fun i => ws[i]?) = wc.map some) {b q0 ci : Nat} {q : vw_C} {fs : List Value} (av : List Value) (hc : pc_cl[ci]? = some q) (he : ws[q0]? = some (b, .inr (ci, fs))) : PreV s H q.1 b (pc_Pre g wc H.size (.ref b :: av)) av :=
  ⟨pc_blind, va_recv hE.2.1 hP hc he, (pc_pre hP hD hE hS hA isC hn hC (.ref b :: av)).2⟩
/-- behind a call: the rest as it was, and the callee's world -/
theorem pc_i {S : Type} {post : Int32 → S → Prop} {Wf : S → va_W} (hP : va_P g.1 pc_cl ws H) (hD : va_D A ws) (hS : va_S A s.heap H locs) (hA : ∀ q, s.heap.size ≤ q → A q) (isC isR : List Nat) (hC : isC.map (fun i => ws[i]?) = wc.map some) (hR : isR.map (fun i => ws[i]?) = wr.map some) (hn : va_nd isR = true) (hdis : ∀ i ∈ isR, i ∉ isC) {cells' slots' : Nat} (hcc : cells + mc = cells') (hss : slots + ms = slots')
    (hr : va_Run p l e R s m args below meth c H locs cells slots mc ms (F0 m pc ls st0) rest (va_Qi post (pc_B g (va_A wc H.size) Wf) (va_A wc H.size) a) (va_A wc H.size))
    (kk : ∀ (r : Int32) (u : S) (H1 : Heap) (locs1 : List Loc), post r u → va_P g.1 pc_cl (wr ++ Wf u) H1 → va_D A (wr ++ Wf u) → va_S A s.heap H1 locs1 → W p l e R s m args below meth c H1 locs1 cells' slots' Q (F0 m (pc + 3) ls (.int r :: rest))) : W p l e R s m args below meth c H locs cells slots Q (F0 m pc ls st0) := by
  subst hcc; subst hss
  have hF := va_free (wc := wc) hD hS hA isC hC
  refine va_calli hr hS (fun q _ h => hF q h) hF (fun r u t H1 locs1 ht _ hw hB _ hk hS1 => ?_)
  obtain ⟨hP1, hD1⟩ := hB
  rw [ht] at hP1
  obtain ⟨hP2, hD2⟩ := va_join hP hD isC isR hC hR hn hdis hk hF hP1 hD1
  exact kk r u H1 locs1 hw hP2 hD2 hS1
theorem pc_v {S : Type} {post : S → Prop} {Wf : S → va_W} (hP : va_P g.1 pc_cl ws H) (hD : va_D A ws) (hS : va_S A s.heap H locs) (hA : ∀ q, s.heap.size ≤ q → A q) (isC isR : List Nat) (hC : isC.map (fun i => ws[i]?) = wc.map some) (hR : isR.map (fun i => ws[i]?) = wr.map some) (hn : va_nd isR = true) (hdis : ∀ i ∈ isR, i ∉ isC) {cells' slots' : Nat} (hcc : cells + mc = cells') (hss : slots + ms = slots')
    (hr : va_Run p l e R s m args below meth c H locs cells slots mc ms (F0 m pc ls st0) rest (va_Qv post (pc_B g (va_A wc H.size) Wf) (va_A wc H.size) a) (va_A wc H.size))
    (kk : ∀ (u : S) (H1 : Heap) (locs1 : List Loc), post u → va_P g.1 pc_cl (wr ++ Wf u) H1 → va_D A (wr ++ Wf u) → va_S A s.heap H1 locs1 → W p l e R s m args below meth c H1 locs1 cells' slots' Q (F0 m (pc + 3) ls rest)) : W p l e R s m args below meth c H locs cells slots Q (F0 m pc ls st0) := by
  subst hcc; subst hss
  have hF := va_free (wc := wc) hD hS hA isC hC
  refine va_callv hr hS (fun q _ h => hF q h) hF (fun u t H1 locs1 ht _ hw hB _ hk hS1 => ?_)
  obtain ⟨hP1, hD1⟩ := hB
  rw [ht] at hP1
  obtain ⟨hP2, hD2⟩ := va_join hP hD isC isR hC hR hn hdis hk hF hP1 hD1
  exact kk u H1 locs1 hw hP2 hD2 hS1
/-- what a call of y asks of the tables -/
theorem pc_cb {own : String} {index : Nat} {y : MethodName} {bytes : ByteArray} {maxL n : Nat} {ret : Option FieldType} {rm : Room} {H0 : Heap} (hE : pc_E g A s H0) (hc : Cond.code y bytes maxL ret ∈ pc_T) (hi : Cond.initialized y.cls ∈ pc_T) (hl : Cond.methodLink own index y ∈ pc_T)
    (hd : y.cls ≠ "java/lang/invoke/MethodHandle" ∧ y.cls ≠ "java/lang/invoke/VarHandle" ∧ (parseMethodDescriptor y.desc).map (fun d => d.parameters.length) = some n) (hR : rm.frames + 1 ≤ R.frames ∧ 8 + (maxL + 11) + rm.locals ≤ R.locals) : CallB R s args own index y bytes maxL ret [.code y bytes maxL ret] rm rm.cells rm.slots n := by
  refine ⟨rfl, rfl, hR.1, hR.2, fun w hw a' U hW => ?_, List.mem_cons_self, hE.w hc, hE.w hi, ⟨hd.1, hd.2.1⟩, fun sig h => ?_, hE.w hl⟩
  · cases List.mem_singleton.mp hw
    exact hE.1.at hW hc a'
  · have h2 := hd.2.2
    rw [h] at h2
    exact (Option.some.inj h2).symm
theorem pc_cn {own host : String} {index : Nat} {y : MethodName} {bytes : ByteArray} {maxL n : Nat} {ret : Option FieldType} {rm : Room} {H0 : Heap} (hE : pc_E g A s H0) (hc : Cond.code y bytes maxL ret ∈ pc_T) (hi : Cond.initialized y.cls ∈ pc_T) (hl : Cond.methodLinkNest own index y host ∈ pc_T)
    (hd : y.cls ≠ "java/lang/invoke/MethodHandle" ∧ y.cls ≠ "java/lang/invoke/VarHandle" ∧ (parseMethodDescriptor y.desc).map (fun d => d.parameters.length) = some n) (hR : rm.frames + 1 ≤ R.frames ∧ 8 + (maxL + 11) + rm.locals ≤ R.locals) : va_CN R s args own index y host bytes maxL ret [.code y bytes maxL ret] rm rm.cells rm.slots n := by
  refine ⟨⟨rfl, rfl, hR.1, hR.2, fun w hw a' U hW => ?_, List.mem_cons_self⟩, hE.w hc, hE.w hi, ⟨hd.1, hd.2.1⟩, fun sig h => ?_, hE.w hl⟩
  · cases List.mem_singleton.mp hw
    exact hE.1.at hW hc a'
  · have h2 := hd.2.2
    rw [h] at h2
    exact (Option.some.inj h2).symm
/-- the top of the stack under another name -/
theorem pc_ti {x y : Int32} (h : x = y) (k : W p l e R s m args below meth c H locs cells slots Q (F0 m pc ls (.int y :: rest))) : W p l e R s m args below meth c H locs cells slots Q (F0 m pc ls (.int x :: rest)) := h ▸ k
theorem pc_tl {x y : Int64} (h : x = y) (k : W p l e R s m args below meth c H locs cells slots Q (F0 m pc ls (.long y :: rest))) : W p l e R s m args below meth c H locs cells slots Q (F0 m pc ls (.long x :: rest)) := h ▸ k
/-- branches over naturals -/
theorem pc_jge {x y : Nat} {off : Int} {tgt : Nat} (hexec : p.tables.exec = Jvm.exec) (hb : c.code = cc) (hdg : decode cc pc = .ok (.if_icmp .ge off, 3)) (ht : (pc : Int) + off = (tgt : Int)) (hx : x < 2 ^ 31) (hy : y < 2 ^ 31)
    (kt : y ≤ x → W p l e R s m args below meth c H locs cells slots Q (F0 m tgt ls rest)) (kf : x < y → W p l e R s m args below meth c H locs cells slots Q (F0 m (pc + 3) ls rest)) : W p l e R s m args below meth c H locs cells slots Q (F0 m pc ls (.int (nI y) :: .int (nI x) :: rest)) :=
  lv_icmp_ge hexec hb hdg ht (fun h => kt ((nI_leI hy hx).mp h)) (fun h => kf (Nat.not_le.mp fun z => h ((nI_leI hy hx).mpr z)))
theorem pc_jlt {x y : Nat} {off : Int} {tgt : Nat} (hexec : p.tables.exec = Jvm.exec) (hb : c.code = cc) (hdg : decode cc pc = .ok (.if_icmp .lt off, 3)) (ht : (pc : Int) + off = (tgt : Int)) (hx : x < 2 ^ 31) (hy : y < 2 ^ 31)
    (kt : x < y → W p l e R s m args below meth c H locs cells slots Q (F0 m tgt ls rest)) (kf : y ≤ x → W p l e R s m args below meth c H locs cells slots Q (F0 m (pc + 3) ls rest)) : W p l e R s m args below meth c H locs cells slots Q (F0 m pc ls (.int (nI y) :: .int (nI x) :: rest)) :=
  lv_icmp_lt hexec hb hdg ht (fun h => kt ((nI_ltI hx hy).mp h)) (fun h => kf (Nat.not_lt.mp fun z => h ((nI_ltI hx hy).mpr z)))
theorem pc_jgt {x y : Nat} {off : Int} {tgt : Nat} (hexec : p.tables.exec = Jvm.exec) (hb : c.code = cc) (hdg : decode cc pc = .ok (.if_icmp .gt off, 3)) (ht : (pc : Int) + off = (tgt : Int)) (hx : x < 2 ^ 31) (hy : y < 2 ^ 31)
    (kt : y < x → W p l e R s m args below meth c H locs cells slots Q (F0 m tgt ls rest)) (kf : x ≤ y → W p l e R s m args below meth c H locs cells slots Q (F0 m (pc + 3) ls rest)) : W p l e R s m args below meth c H locs cells slots Q (F0 m pc ls (.int (nI y) :: .int (nI x) :: rest)) :=
  lv_icmp_gt hexec hb hdg ht (fun h => kt ((nI_ltI hy hx).mp h)) (fun h => kf (Nat.not_lt.mp fun z => h ((nI_ltI hy hx).mpr z)))
theorem pc_jle {x y : Nat} {off : Int} {tgt : Nat} (hexec : p.tables.exec = Jvm.exec) (hb : c.code = cc) (hdg : decode cc pc = .ok (.if_icmp .le off, 3)) (ht : (pc : Int) + off = (tgt : Int)) (hx : x < 2 ^ 31) (hy : y < 2 ^ 31)
    (kt : x ≤ y → W p l e R s m args below meth c H locs cells slots Q (F0 m tgt ls rest)) (kf : y < x → W p l e R s m args below meth c H locs cells slots Q (F0 m (pc + 3) ls rest)) : W p l e R s m args below meth c H locs cells slots Q (F0 m pc ls (.int (nI y) :: .int (nI x) :: rest)) :=
  lv_icmp_le hexec hb hdg ht (fun h => kt ((nI_leI hx hy).mp h)) (fun h => kf (Nat.not_le.mp fun z => h ((nI_leI hx hy).mpr z)))
theorem pc_jeq {x y : Nat} {off : Int} {tgt : Nat} (hexec : p.tables.exec = Jvm.exec) (hb : c.code = cc) (hdg : decode cc pc = .ok (.if_icmp .eq off, 3)) (ht : (pc : Int) + off = (tgt : Int)) (hx : x < 2 ^ 31) (hy : y < 2 ^ 31)
    (kt : x = y → W p l e R s m args below meth c H locs cells slots Q (F0 m tgt ls rest)) (kf : x ≠ y → W p l e R s m args below meth c H locs cells slots Q (F0 m (pc + 3) ls rest)) : W p l e R s m args below meth c H locs cells slots Q (F0 m pc ls (.int (nI y) :: .int (nI x) :: rest)) :=
  lv_icmp_eq hexec hb hdg ht (fun h => kt ((nI_eq hx hy).mp h)) (fun h => kf (fun z => h ((nI_eq hx hy).mpr z)))
theorem pc_jne {x y : Nat} {off : Int} {tgt : Nat} (hexec : p.tables.exec = Jvm.exec) (hb : c.code = cc) (hdg : decode cc pc = .ok (.if_icmp .ne off, 3)) (ht : (pc : Int) + off = (tgt : Int)) (hx : x < 2 ^ 31) (hy : y < 2 ^ 31)
    (kt : x ≠ y → W p l e R s m args below meth c H locs cells slots Q (F0 m tgt ls rest)) (kf : x = y → W p l e R s m args below meth c H locs cells slots Q (F0 m (pc + 3) ls rest)) : W p l e R s m args below meth c H locs cells slots Q (F0 m pc ls (.int (nI y) :: .int (nI x) :: rest)) :=
  lv_icmp_ne hexec hb hdg ht (fun h => kt (fun z => h ((nI_eq hx hy).mpr z))) (fun h => kf ((nI_eq hx hy).mp h))
/-- .. and with zero -/
theorem pc_zlt {x : Nat} {off : Int} {tgt : Nat} (hexec : p.tables.exec = Jvm.exec) (hb : c.code = cc) (hdg : decode cc pc = .ok (.ifCond .lt off, 3)) (ht : (pc : Int) + off = (tgt : Int)) (hx : x < 2 ^ 31)
    (kt : False → W p l e R s m args below meth c H locs cells slots Q (F0 m tgt ls rest)) (kf : True → W p l e R s m args below meth c H locs cells slots Q (F0 m (pc + 3) ls rest)) : W p l e R s m args below meth c H locs cells slots Q (F0 m pc ls (.int (nI x) :: rest)) :=
  lv_if_lt hexec hb hdg ht (fun h => absurd h (nI_pos hx)) (fun _ => kf trivial)
theorem pc_zge {x : Nat} {off : Int} {tgt : Nat} (hexec : p.tables.exec = Jvm.exec) (hb : c.code = cc) (hdg : decode cc pc = .ok (.ifCond .ge off, 3)) (ht : (pc : Int) + off = (tgt : Int)) (hx : x < 2 ^ 31)
    (kt : True → W p l e R s m args below meth c H locs cells slots Q (F0 m tgt ls rest)) (kf : False → W p l e R s m args below meth c H locs cells slots Q (F0 m (pc + 3) ls rest)) : W p l e R s m args below meth c H locs cells slots Q (F0 m pc ls (.int (nI x) :: rest)) :=
  lv_if_ge hexec hb hdg ht (fun _ => kt trivial) (fun h => absurd (nI_pos' hx) h)
theorem pc_zeq {x : Nat} {off : Int} {tgt : Nat} (hexec : p.tables.exec = Jvm.exec) (hb : c.code = cc) (hdg : decode cc pc = .ok (.ifCond .eq off, 3)) (ht : (pc : Int) + off = (tgt : Int)) (hx : x < 2 ^ 31)
    (kt : x = 0 → W p l e R s m args below meth c H locs cells slots Q (F0 m tgt ls rest)) (kf : x ≠ 0 → W p l e R s m args below meth c H locs cells slots Q (F0 m (pc + 3) ls rest)) : W p l e R s m args below meth c H locs cells slots Q (F0 m pc ls (.int (nI x) :: rest)) :=
  lv_if_eq hexec hb hdg ht (fun h => kt ((nI_eq hx (by decide)).mp (h.trans nI_0.symm))) (fun h => kf (fun z => h (by rw [z]; exact nI_0)))
theorem pc_zne {x : Nat} {off : Int} {tgt : Nat} (hexec : p.tables.exec = Jvm.exec) (hb : c.code = cc) (hdg : decode cc pc = .ok (.ifCond .ne off, 3)) (ht : (pc : Int) + off = (tgt : Int)) (hx : x < 2 ^ 31)
    (kt : x ≠ 0 → W p l e R s m args below meth c H locs cells slots Q (F0 m tgt ls rest)) (kf : x = 0 → W p l e R s m args below meth c H locs cells slots Q (F0 m (pc + 3) ls rest)) : W p l e R s m args below meth c H locs cells slots Q (F0 m pc ls (.int (nI x) :: rest)) :=
  lv_if_ne hexec hb hdg ht (fun h => kt (fun z => h (by rw [z]; exact nI_0))) (fun h => kf ((nI_eq hx (by decide)).mp (h.trans nI_0.symm)))
theorem pc_zgt {x : Nat} {off : Int} {tgt : Nat} (hexec : p.tables.exec = Jvm.exec) (hb : c.code = cc) (hdg : decode cc pc = .ok (.ifCond .gt off, 3)) (ht : (pc : Int) + off = (tgt : Int)) (hx : x < 2 ^ 31)
    (kt : 0 < x → W p l e R s m args below meth c H locs cells slots Q (F0 m tgt ls rest)) (kf : x = 0 → W p l e R s m args below meth c H locs cells slots Q (F0 m (pc + 3) ls rest)) : W p l e R s m args below meth c H locs cells slots Q (F0 m pc ls (.int (nI x) :: rest)) :=
  lv_if_gt hexec hb hdg ht (fun h => kt ((nI_ltI (by decide) hx).mp (by rw [nI_0]; exact h))) (fun h => kf (by
    rcases Nat.eq_zero_or_pos x with z | z
    · exact z
    · exact absurd (by have := nI_lt z hx; rwa [nI_0] at this) h))
theorem pc_zle {x : Nat} {off : Int} {tgt : Nat} (hexec : p.tables.exec = Jvm.exec) (hb : c.code = cc) (hdg : decode cc pc = .ok (.ifCond .le off, 3)) (ht : (pc : Int) + off = (tgt : Int)) (hx : x < 2 ^ 31)
    (kt : x = 0 → W p l e R s m args below meth c H locs cells slots Q (F0 m tgt ls rest)) (kf : 0 < x → W p l e R s m args below meth c H locs cells slots Q (F0 m (pc + 3) ls rest)) : W p l e R s m args below meth c H locs cells slots Q (F0 m pc ls (.int (nI x) :: rest)) :=
  lv_if_le hexec hb hdg ht (fun h => kt (by
    rcases Nat.eq_zero_or_pos x with z | z
    · exact z
    · exact absurd h (nI_nle z hx))) (fun h => kf (by
    rcases Nat.eq_zero_or_pos x with z | z
    · exact absurd (by rw [z, nI_0]; exact Int32.le_refl 0) h
    · exact z))
/-- arrays, by naturals -/
theorem pc_bald {ar N j : Nat} {f : Nat → Int32} (hexec : p.tables.exec = Jvm.exec) (hb : c.code = cc) (hK : va_K g.1 pc_cl (pc_ty g) s) (hP : va_P g.1 pc_cl ws H) (q0 t0 : Nat) {cA : ClassId} (ha : ws[q0]? = some (ar, .inl (cA, N, .inl f))) (ht : (pc_ty g)[t0]? = some (cA, .byte)) (hj : j < N) (hN : N < 2 ^ 31) (hdg : decode cc pc = .ok (.baload, 1))
    (kk : W p l e R s m args below meth c H locs cells slots Q (F0 m (pc + 1) ls (.int (f j) :: rest))) : W p l e R s m args below meth c H locs cells slots Q (F0 m pc ls (.int (nI j) :: .ref ar :: rest)) := by
  refine va_bald hexec hb hK hP q0 t0 ha ht (vp_in_nI hj hN) hdg ?_
  rw [nI_clamp (Nat.lt_trans hj hN)]
  exact kk
theorem pc_iald {ar N j : Nat} {f : Nat → Int32} (hexec : p.tables.exec = Jvm.exec) (hb : c.code = cc) (hK : va_K g.1 pc_cl (pc_ty g) s) (hP : va_P g.1 pc_cl ws H) (q0 t0 : Nat) {cA : ClassId} (ha : ws[q0]? = some (ar, .inl (cA, N, .inl f))) (ht : (pc_ty g)[t0]? = some (cA, .int)) (hj : j < N) (hN : N < 2 ^ 31) (hdg : decode cc pc = .ok (.iaload, 1))
    (kk : W p l e R s m args below meth c H locs cells slots Q (F0 m (pc + 1) ls (.int (f j) :: rest))) : W p l e R s m args below meth c H locs cells slots Q (F0 m pc ls (.int (nI j) :: .ref ar :: rest)) := by
  refine va_iald hexec hb hK hP q0 t0 ha ht (vp_in_nI hj hN) hdg ?_
  rw [nI_clamp (Nat.lt_trans hj hN)]
  exact kk
theorem pc_bast {ar N j n : Nat} {t : Nat → UInt8} (hexec : p.tables.exec = Jvm.exec) (hb : c.code = cc) (hK : va_K g.1 pc_cl (pc_ty g) s) (hP : va_P g.1 pc_cl ws H) (hD : va_D A ws) (hS : va_S A s.heap H locs) (q0 t0 : Nat) {cA : ClassId} (ha : ws[q0]? = some (ar, .inl (cA, N, .inl (bA t)))) (ht : (pc_ty g)[t0]? = some (cA, .byte)) (hj : j < N) (hN : N < 2 ^ 31) (hdg : decode cc pc = .ok (.bastore, 1))
    (kk : ∀ (H1 : Heap) (locs1 : List Loc), va_P g.1 pc_cl (ws.set q0 (ar, .inl (cA, N, .inl (bA (upB t j n))))) H1 → va_D A (ws.set q0 (ar, .inl (cA, N, .inl (bA (upB t j n))))) → va_S A s.heap H1 locs1 → W p l e R s m args below meth c H1 locs1 cells slots Q (F0 m (pc + 1) ls rest)) : W p l e R s m args below meth c H locs cells slots Q (F0 m pc ls (.int (sb_b n) :: .int (nI j) :: .ref ar :: rest)) := by
  refine va_bast hexec hb hK hP hD hS q0 t0 ha ht (vp_in_nI hj hN) hdg (fun H1 locs1 h1 h2 h3 => ?_)
  rw [nI_clamp (Nat.lt_trans hj hN), bA_upd] at h1 h2
  exact kk H1 locs1 h1 h2 h3
theorem pc_iast {ar N j : Nat} {f : Nat → Int32} {x : Int32} (hexec : p.tables.exec = Jvm.exec) (hb : c.code = cc) (hK : va_K g.1 pc_cl (pc_ty g) s) (hP : va_P g.1 pc_cl ws H) (hD : va_D A ws) (hS : va_S A s.heap H locs) (q0 t0 : Nat) {cA : ClassId} (ha : ws[q0]? = some (ar, .inl (cA, N, .inl f))) (ht : (pc_ty g)[t0]? = some (cA, .int)) (hj : j < N) (hN : N < 2 ^ 31) (hdg : decode cc pc = .ok (.iastore, 1))
    (kk : ∀ (H1 : Heap) (locs1 : List Loc), va_P g.1 pc_cl (ws.set q0 (ar, .inl (cA, N, .inl (upd f j x)))) H1 → va_D A (ws.set q0 (ar, .inl (cA, N, .inl (upd f j x)))) → va_S A s.heap H1 locs1 → W p l e R s m args below meth c H1 locs1 cells slots Q (F0 m (pc + 1) ls rest)) : W p l e R s m args below meth c H locs cells slots Q (F0 m pc ls (.int x :: .int (nI j) :: .ref ar :: rest)) := by
  refine va_iast hexec hb hK hP hD hS q0 t0 ha ht (vp_in_nI hj hN) hdg (fun H1 locs1 h1 h2 h3 => ?_)
  rw [nI_clamp (Nat.lt_trans hj hN)] at h1 h2
  exact kk H1 locs1 h1 h2 h3
/-- a new array of one of the three kinds -/
theorem pc_ra {cA : ClassId} {ty : FieldType} (h : va_RA s cA ty) : s.vm.findClass ("[" ++ ty.toString) = some cA := by
  cases ty with
  | object C => exact h.choose_spec.choose_spec.2.2.2
  | _ => exact h
theorem pc_newa (hexec : p.tables.exec = Jvm.exec) (hb : c.code = cc) {atype : ArrayType} (harr : (Cond.arrayClass (newarray.typeOf atype)).before args s = true) {ty : FieldType} (hty : newarray.typeOf atype = ty) (hK : va_K g.1 pc_cl (pc_ty g) s) (hP : va_P g.1 pc_cl ws H) (hD : va_D A ws) (hS : va_S A s.heap H locs) (hA : ∀ q, s.heap.size ≤ q → A q) (t0 : Nat) {cA : ClassId} (ht : (pc_ty g)[t0]? = some (cA, ty))
    {n : Int32} {N' : Nat} {a0 : vp_A} (ha : ∀ cA : ClassId, vp_cell cA a0 = arrV cA N' (fun _ => defaultValue ty)) (hn : ¬ n < 0) (hN : n.toNatClampNeg = N') (hbytes : N' * componentBytes ty ≤ 536870912) (hcells : cells + 1 ≤ R.cells) (hslots : slots + N' ≤ R.slots) (hdg : decode cc pc = .ok (.newarray atype, 2))
    (kk : ∀ (q : Nat) (H1 : Heap), va_P g.1 pc_cl (ws ++ [(q, .inl (cA, a0))]) H1 → va_D A (ws ++ [(q, .inl (cA, a0))]) → va_S A s.heap H1 locs → W p l e R s m args below meth c H1 locs (cells + 1) (slots + N') Q (F0 m (pc + 2) ls (.ref q :: rest))) : W p l e R s m args below meth c H locs cells slots Q (F0 m pc ls (.int n :: rest)) := by
  refine va_newa hexec hb harr hty hK hP hD hS hA ha hn hN hbytes hcells hslots hdg (fun q cA' H1 hK1 hP1 hD1 hS1 => ?_)
  have e1 := pc_ra (hK1.2 3 (cA', ty) rfl).2
  have e2 := pc_ra (hK.2 t0 (cA, ty) ht).2
  cases e1.symm.trans e2
  exact kk q H1 hP1 hD1 hS1
/-- System.arraycopy, by naturals -/
theorem pc_copyb (hexec : p.tables.exec = Jvm.exec) (hb : c.code = cc) (hml : c.maxLocals = ls.size) {own : String} {index : Nat} (hown : s.vm.findClass own = some m.cls) (hlink : (Cond.methodLink own index arraycopyName).before args s = true) (hnat : (Cond.native arraycopyName).before args s = true) (hstat : (Cond.static arraycopyName).before args s = true) (hini : (Cond.initialized "java/lang/System").before args s = true)
    (hK : va_K g.1 pc_cl (pc_ty g) s) (hP : va_P g.1 pc_cl ws H) (hD : va_D A ws) (hS : va_S A s.heap H locs) (q0 q1 : Nat) {a0 ar N0 N1 : Nat} {u v : Nat → UInt8} (ha0 : ws[q0]? = some (a0, .inl (g.2.1, N0, .inl (bA u)))) (ha1 : ws[q1]? = some (ar, .inl (g.2.1, N1, .inl (bA v)))) {sp dp n : Nat} (h4 : sp + n ≤ N0) (h5 : dp + n ≤ N1) (hN0 : N0 < 2 ^ 31) (hN1 : N1 < 2 ^ 31)
    (hframes : 1 ≤ R.frames) (hlocals : (rest.map fun v => v.category).sum + (nativeFrameWords "java/lang/System" "arraycopy" 5 + 11) ≤ R.locals) (hdg : decode cc pc = .ok (.invokestatic index, 3))
    (kk : ∀ (H1 : Heap) (locs1 : List Loc), va_P g.1 pc_cl (ws.set q1 (ar, .inl (g.2.1, N1, .inl (bA (va_cpy u v sp dp n))))) H1 → va_D A (ws.set q1 (ar, .inl (g.2.1, N1, .inl (bA (va_cpy u v sp dp n))))) → va_S A s.heap H1 locs1 → W p l e R s m args below meth c H1 locs1 cells slots Q (F0 m (pc + 3) ls rest)) : W p l e R s m args below meth c H locs cells slots Q (F0 m pc ls (.int (nI n) :: .int (nI dp) :: .ref ar :: .int (nI sp) :: .ref a0 :: rest)) := by
  refine va_copyi hexec hb hml hown hlink hnat hstat hini hK hP hD hS q0 q1 0 0 (ty := .byte) ha0 ha1 rfl rfl rfl (nI_pos (by omega)) (nI_pos (by omega)) (nI_pos (by omega)) (by rw [nI_clamp (by omega), nI_clamp (by omega)]; exact h4) (by rw [nI_clamp (by omega), nI_clamp (by omega)]; exact h5) (fun i _ => pk_fb _) hframes hlocals hdg (fun H1 locs1 g1 g2 g3 => ?_)
  rw [nI_clamp (by omega), nI_clamp (by omega), nI_clamp (by omega), bA_cpy] at g1 g2
  exact kk H1 locs1 g1 g2 g3
theorem pc_copyn (hexec : p.tables.exec = Jvm.exec) (hb : c.code = cc) (hml : c.maxLocals = ls.size) {own : String} {index : Nat} (hown : s.vm.findClass own = some m.cls) (hlink : (Cond.methodLink own index arraycopyName).before args s = true) (hnat : (Cond.native arraycopyName).before args s = true) (hstat : (Cond.static arraycopyName).before args s = true) (hini : (Cond.initialized "java/lang/System").before args s = true)
    (hK : va_K g.1 pc_cl (pc_ty g) s) (hP : va_P g.1 pc_cl ws H) (hD : va_D A ws) (hS : va_S A s.heap H locs) (q0 q1 : Nat) {a0 ar N0 N1 : Nat} {u v : Nat → Int32} (ha0 : ws[q0]? = some (a0, .inl (g.2.2.1, N0, .inl u))) (ha1 : ws[q1]? = some (ar, .inl (g.2.2.1, N1, .inl v))) {sp dp n : Nat} (h4 : sp + n ≤ N0) (h5 : dp + n ≤ N1) (hN0 : N0 < 2 ^ 31) (hN1 : N1 < 2 ^ 31)
    (hframes : 1 ≤ R.frames) (hlocals : (rest.map fun v => v.category).sum + (nativeFrameWords "java/lang/System" "arraycopy" 5 + 11) ≤ R.locals) (hdg : decode cc pc = .ok (.invokestatic index, 3))
    (kk : ∀ (H1 : Heap) (locs1 : List Loc), va_P g.1 pc_cl (ws.set q1 (ar, .inl (g.2.2.1, N1, .inl (va_cpy u v sp dp n)))) H1 → va_D A (ws.set q1 (ar, .inl (g.2.2.1, N1, .inl (va_cpy u v sp dp n)))) → va_S A s.heap H1 locs1 → W p l e R s m args below meth c H1 locs1 cells slots Q (F0 m (pc + 3) ls rest)) : W p l e R s m args below meth c H locs cells slots Q (F0 m pc ls (.int (nI n) :: .int (nI dp) :: .ref ar :: .int (nI sp) :: .ref a0 :: rest)) := by
  refine va_copyi hexec hb hml hown hlink hnat hstat hini hK hP hD hS q0 q1 1 1 (ty := .int) ha0 ha1 rfl rfl rfl (nI_pos (by omega)) (nI_pos (by omega)) (nI_pos (by omega)) (by rw [nI_clamp (by omega), nI_clamp (by omega)]; exact h4) (by rw [nI_clamp (by omega), nI_clamp (by omega)]; exact h5) (fun i _ => rfl) hframes hlocals hdg (fun H1 locs1 g1 g2 g3 => ?_)
  rw [nI_clamp (by omega), nI_clamp (by omega), nI_clamp (by omega)] at g1 g2
  exact kk H1 locs1 g1 g2 g3
/-- a boolean on the stack, by what it says -/
theorem pc_beq {P : Prop} [Decidable P] {off : Int} {tgt : Nat} (hexec : p.tables.exec = Jvm.exec) (hb : c.code = cc) (hdg : decode cc pc = .ok (.ifCond .eq off, 3)) (ht : (pc : Int) + off = (tgt : Int))
    (kt : ¬ P → W p l e R s m args below meth c H locs cells slots Q (F0 m tgt ls rest)) (kf : P → W p l e R s m args below meth c H locs cells slots Q (F0 m (pc + 3) ls rest)) : W p l e R s m args below meth c H locs cells slots Q (F0 m pc ls (.int (bI P) :: rest)) :=
  lv_if_eq hexec hb hdg ht (fun h => kt (fun z => by rw [bI_t z] at h; exact absurd h (by decide))) (fun h => kf (Decidable.of_not_not fun z => h (bI_f z)))
theorem pc_bne {P : Prop} [Decidable P] {off : Int} {tgt : Nat} (hexec : p.tables.exec = Jvm.exec) (hb : c.code = cc) (hdg : decode cc pc = .ok (.ifCond .ne off, 3)) (ht : (pc : Int) + off = (tgt : Int))
    (kt : P → W p l e R s m args below meth c H locs cells slots Q (F0 m tgt ls rest)) (kf : ¬ P → W p l e R s m args below meth c H locs cells slots Q (F0 m (pc + 3) ls rest)) : W p l e R s m args below meth c H locs cells slots Q (F0 m pc ls (.int (bI P) :: rest)) :=
  lv_if_ne hexec hb hdg ht (fun h => kt (Decidable.of_not_not fun z => h (bI_f z))) (fun h => kf (fun z => by rw [bI_t z] at h; exact absurd h (by decide)))
end PCW
