/-! Contracts of methods that may throw, and of methods with handlers. -/
/-- how a call ended: with an int (or with nothing), or with an exception of this class -/
abbrev tx_R : Type := Int32 ⊕ String
def tx_oc (rt : Option FieldType) (st : State) (o : Outcome) (t : State) : tx_R → Prop
  | .inl v => o = .returned (rt.map fun _ => .int v)
  | .inr E => ∃ (q : Addr) (ce : Cell), o = .threw q ∧ t.heap[q]? = some ce ∧ ce.vm = .none ∧ st.vm.findClass E = some ce.cls
def tx_Q {S : Type} (rt : Option FieldType) (post : tx_R → S → Prop) (B : S → State → Prop) (A : Nat → Prop) : Array Value → State → Outcome → State → Prop := fun _ st o t => (∃ (r : tx_R) (u : S), tx_oc rt st o t r ∧ post r u ∧ B u t) ∧ va_F A st t
/-- the word that says what a method's bytes and its table are -/
def tx_wd (wd : Cond) (y : MethodName) (cc : ByteArray) (nL : Nat) (rt : Option FieldType) (hh : List (Nat × Nat × Nat × Nat)) : Prop := ∀ (a : Array Value) (s : State), wd.before a s = true → (Cond.codeWith y cc nL rt hh).before a s = true
theorem tx_wd.plain {y : MethodName} {cc : ByteArray} {nL : Nat} {rt : Option FieldType} : tx_wd (.code y cc nL rt) y cc nL rt [] := fun a s h => by
  simp only [Cond.before, Cond.holds] at h ⊢
  rw [← Cond.code_iff_codeWith_nil]
  exact h
theorem tx_wd.with {y : MethodName} {cc : ByteArray} {nL : Nat} {rt : Option FieldType} {hh : List (Nat × Nat × Nat × Nat)} : tx_wd (.codeWith y cc nL rt hh) y cc nL rt hh := fun _ _ h => h
theorem tx_wd.cd {wd : Cond} {y : MethodName} {cc : ByteArray} {nL : Nat} {rt : Option FieldType} {hh : List (Nat × Nat × Nat × Nat)} (h : tx_wd wd y cc nL rt hh) {a : Array Value} {U : State} (hw : wd.before a U = true) : tx_cd y nL U := tx_cd.with (h a U hw)
def pc_X {S : Type} (l : Launch) (y : MethodName) (wd : Cond) (rt : Option FieldType) (rm : Room) (g : pc_G) (W : va_W) (av : List Value) (post : tx_R → S → Prop) (Wf : S → va_W) : Prop :=
  ∀ sz : Nat, tx_Met l y [wd] rm (pc_Pre g W sz av) (tx_Q rt post (pc_B g (va_A W sz) Wf) (va_A W sz)) rm.cells rm.slots (va_A W sz)
theorem tx_ofW {l : Launch} {y : MethodName} {wd : Cond} {rm : Room} {Pc : Array Value → State → Prop} {Qc : Array Value → State → Outcome → State → Prop} {mc ms : Nat} {free : Addr → Prop} {cc : ByteArray} {nL : Nat} {rt : Option FieldType} {hh : List (Nat × Nat × Nat × Nat)} (hy : plainName y.cls = true) (hw : tx_wd wd y cc nL rt hh)
    (body : ∀ p e s m args below meth c s₁, BodyLoose p l y (headSpec [wd] rm) cc nL rt e s m args below meth c s₁ → c.maxLocals = nL → c.exceptionTable.toList = tableOf hh → Pc args s → W p l e (headSpec [wd] rm).room s m args below meth c s.heap [] 0 0 (tx_MQ below Qc args s mc ms free) (entryFrame m args nL)) : tx_Met l y [wd] rm Pc Qc mc ms free := by
  refine MetFree.of_bodyS (code := cc) (maxLocals := nL) (ret := rt) hy ?_ ?_
  · intro args s m h hn
    obtain ⟨m', meth, c, h0, h1, h2, h3, h4, -, h5, h6, -⟩ := Cond.codeWith_spec (hw args s (atoms_spec (ws := [wd]) h _ List.mem_cons_self))
    cases hn.symm.trans h0
    exact ⟨meth, c, h1, h2, h3, h4, h5, h6⟩
  · intro p e s m args below meth c s₁ B hml hP _
    have hh0 : s₁.heap = s.heap := by rw [B.state]; rfl
    have X := Stand.of_body B
    obtain ⟨m', meth', c', h0, h1, h2, -, -, h3, -⟩ := Cond.codeWith_spec (hw args s (atoms_spec (ws := [wd]) B.pre _ List.mem_cons_self))
    cases B.named.symm.trans h0
    cases B.method.symm.trans h1
    cases X.code.symm.trans h2
    obtain ⟨t, a1, o, b1, b2, b3⟩ := body p e s m args below meth c s₁ B hml (by rw [← h3, table_eq]) hP s₁ hh0 X
    exact ⟨t, o, a1, b1, b2, ⟨b3.1, b3.2⟩⟩
section TXX
variable {p : Program} {l : Launch} {e : Env} {R : Room} {s : State} {m : MethodId} {args : Array Value} {below : List Frame} {meth : Method} {c : Code} {H : Heap} {locs : List Loc} {cells slots : Nat} {Q : State → Prop}
variable {pc : Nat} {ls : Array Slot} {rest st0 : List Value} {a : Array Value} {A : Nat → Prop} {mc ms : Nat} {g : pc_G} {ws wc wr : va_W} {cc : ByteArray} {rt : Option FieldType}
theorem tx_end {Qc : Array Value → State → Outcome → State → Prop} {free : Addr → Prop} {t : State} (h : MQ below Qc args s mc ms free t) : tx_MQ below Qc args s mc ms free t := by
  obtain ⟨o, h1, h2, h3, L, ⟨-, h4, h5⟩, h6⟩ := h
  exact ⟨o, h1, h2, h3, L, h4, h5, h6⟩
/-- the rules that a body's end is told by: a return, .. -/
def tx_hR {S : Type} (p : Program) (l : Launch) (e : Env) (R : Room) (s : State) (m : MethodId) (args : Array Value) (below : List Frame) (meth : Method) (c : Code) (cc : ByteArray) (g : pc_G) (A : Nat → Prop) (Q : State → Prop) (post : tx_R → S → Prop) (Wf : S → va_W) : Option FieldType → Prop
  | some ty => ∀ (H : Heap) (locs : List Loc) (pc : Nat) (ls : Array Slot) (v : Int32) (u : S), decode cc pc = .ok (.ireturn, 1) → narrow ty (.int v) = .int v → post (.inl v) u → va_P g.1 pc_cl (Wf u) H → va_D A (Wf u) → va_S A s.heap H locs → W p l e R s m args below meth c H locs R.cells R.slots Q (F0 m pc ls [.int v])
  | none => ∀ (H : Heap) (locs : List Loc) (pc : Nat) (ls : Array Slot) (u : S), decode cc pc = .ok (.return_, 1) → post (.inl 0) u → va_P g.1 pc_cl (Wf u) H → va_D A (Wf u) → va_S A s.heap H locs → W p l e R s m args below meth c H locs R.cells R.slots Q (F0 m pc ls [])
/-- .. 'throw new E()', .. -/
def tx_hT {S : Type} (p : Program) (l : Launch) (e : Env) (R : Room) (s : State) (m : MethodId) (args : Array Value) (below : List Frame) (meth : Method) (c : Code) (cc : ByteArray) (g : pc_G) (A : Nat → Prop) (Q : State → Prop) (post : tx_R → S → Prop) (Wf : S → va_W) (own : String) (hh : List (Nat × Nat × Nat × Nat)) : Prop :=
  ∀ (E : String) (ik ic : Nat) (H : Heap) (locs : List Loc) (cells slots pc : Nat) (ls : Array Slot) (u : S), Bundle.fit E = true → Cond.classLink own ik E ∈ pc_T → Cond.initialized E ∈ pc_T → tx_all own ic E tx_up = true → ls.size = c.maxLocals → decode cc pc = .ok (.new ik, 3) → decode cc (pc + 3) = .ok (.dup, 1) → decode cc (pc + 4) = .ok (.invokespecial ic, 3) → decode cc (pc + 7) = .ok (.athrow, 1) →
    (tableOf hh).all (fun x => !covers x (pc + 7)) = true → (5 < R.frames ∧ 81 ≤ R.locals ∧ cells + 1 ≤ R.cells ∧ slots + 6 ≤ R.slots) → post (.inr E) u → va_P g.1 pc_cl (Wf u) H → va_D A (Wf u) → va_S A s.heap H locs → W p l e R s m args below meth c H locs cells slots Q (F0 m pc ls [])
/-- .. an exception that goes through -/
def tx_hO {S : Type} (p : Program) (l : Launch) (e : Env) (R : Room) (s : State) (m : MethodId) (args : Array Value) (below : List Frame) (meth : Method) (c : Code) (g : pc_G) (A : Nat → Prop) (Q : State → Prop) (post : tx_R → S → Prop) (Wf : S → va_W) (hh : List (Nat × Nat × Nat × Nat)) : Prop :=
  ∀ (E : String) (H : Heap) (locs : List Loc) (cells slots pc : Nat) (ls : Array Slot) (rest : List Value) (u : S) (q : Addr) (ce : Cell), (tableOf hh).all (fun x => !covers x pc) = true → (cells ≤ R.cells ∧ slots ≤ R.slots) → H[q]? = some ce → ce.vm = .none → s.vm.findClass E = some ce.cls → post (.inr E) u → va_P g.1 pc_cl (Wf u) H → va_D A (Wf u) → va_S A s.heap H locs → tx_W p l e R s m args below meth c H locs cells slots Q (F0 m pc ls rest) q
theorem tx_nocov {hh : List (Nat × Nat × Nat × Nat)} {n : Nat} (htab : c.exceptionTable.toList = tableOf hh) (h : (tableOf hh).all (fun x => !covers x n) = true) : ∀ x ∈ c.exceptionTable.toList, covers x n = false := fun x hx => by
  rw [htab] at hx
  have z := List.all_eq_true.mp h x hx
  simp only [Bool.not_eq_true'] at z
  exact z
theorem pc_X.of {S : Type} {l : Launch} {y : MethodName} {wd : Cond} {cc : ByteArray} {nL : Nat} {rt : Option FieldType} {hh : List (Nat × Nat × Nat × Nat)} {rm : Room} {g : pc_G} {W0 : va_W} {av : List Value} {post : tx_R → S → Prop} {Wf : S → va_W} (hy : plainName y.cls = true) (hwd : tx_wd wd y cc nL rt hh) (hav : (lg_sl av).length ≤ nL) (htr : l.stackTraces = false)
    (body : ∀ (p : Program) (e : Env) (s : State) (m : MethodId) (below : List Frame) (meth : Method) (c : Code) (A : Nat → Prop) (Q : State → Prop), p.tables.exec = Jvm.exec → c.code = cc → c.maxLocals = nL → s.vm.findClass y.cls = some m.cls → pc_E g A s s.heap → (∀ q, s.heap.size ≤ q → A q) → c.exceptionTable.toList = tableOf hh →
      tx_hR p l e rm s m av.toArray below meth c cc g A Q post Wf rt → tx_hT p l e rm s m av.toArray below meth c cc g A Q post Wf y.cls hh → tx_hO p l e rm s m av.toArray below meth c g A Q post Wf hh →
      va_P g.1 pc_cl W0 s.heap → va_D A W0 → ∀ ls : Array Slot, lv_has ls nL (lv_args 0 av) → W p l e rm s m av.toArray below meth c s.heap [] 0 0 Q (F0 m 0 ls [])) : pc_X l y wd rt rm g W0 av post Wf := by
  intro sz
  refine tx_ofW (cc := cc) (nL := nL) (rt := rt) (hh := hh) hy hwd ?_
  intro p e s m args below meth c s₁ B hml htab hv
  obtain ⟨rfl, hsz, hP, hD, hE⟩ := hv
  subst hsz
  have hl := lv_entry av (n := nL) hav
  rw [lg_entry_eq]
  have hlocks := B.notSynchronized
  have hown := findClass_of_methodNamed B.named
  refine body p e s m below meth c (va_A W0 s.heap.size) _ B.exec B.bytes hml hown hE (fun q h => Or.inr h) htab ?_ ?_ ?_ hP hD.self _ hl
  · have hr := B.returns
    cases rt with
    | some ty =>
      intro H locs pc ls v u hdg hn hp hP1 hD1 hS
      exact tx_mono (fun t ht => tx_end ht) (W.zret B.exec B.bytes hr hn (fun t ht _ => ⟨⟨.inl v, u, rfl, hp, by rw [pc_B, ht]; exact ⟨hP1, hD1⟩⟩, hS.F ht⟩) hS.2.2 hdg)
    | none =>
      intro H locs pc ls u hdg hp hP1 hD1 hS
      exact tx_mono (fun t ht => tx_end ht) (W.vret B.exec B.bytes hr (fun t ht _ => ⟨⟨.inl 0, u, rfl, hp, by rw [pc_B, ht]; exact ⟨hP1, hD1⟩⟩, hS.F ht⟩) hS.2.2 hdg)
  · intro E ik ic H locs cells slots pc ls u hfit hk hi hal hsize d0 d3 d4 d7 hcov hroom hp hP1 hD1 hS
    refine tx_throw B.exec B.bytes htr hown hE hfit hk hi hal hS hsize d0 d3 d4 d7 (tx_nocov htab hcov) hroom.1 hroom.2.1 hroom.2.2.1 hroom.2.2.2 hlocks ?_ hS.2.2 hroom.2.2.1 hroom.2.2.2
    intro t q ce _ h1 h2 h3 h4 h5
    exact ⟨⟨.inr E, u, ⟨q, ce, rfl, h1, h2, h3⟩, hp, hP1.kept (fun k z hz => h5 z.1 (hP1 k z hz).lt), hD1⟩, Nat.le_trans hS.1 h4, fun z h6 h7 => by rw [h5 z (Nat.lt_of_lt_of_le h6 hS.1)]; exact hS.2.1 z h6 h7⟩
  · intro E H locs cells slots pc ls rest u q ce hcov hroom h1 h2 h3 hp hP1 hD1 hS
    exact tx_out (tx_nocov htab hcov) hlocks (fun t ht _ => ⟨⟨.inr E, u, ⟨q, ce, rfl, by rw [ht]; exact h1, h2, h3⟩, hp, by rw [pc_B, ht]; exact ⟨hP1, hD1⟩⟩, hS.F ht⟩) hS.2.2 hroom.1 hroom.2
/-- where a call goes on -/
def tx_On (p : Program) (l : Launch) (e : Env) (R : Room) (s : State) (m : MethodId) (args : Array Value) (below : List Frame) (meth : Method) (c : Code) (H : Heap) (locs : List Loc) (cells slots : Nat) (Q : State → Prop) (rt : Option FieldType) (pc : Nat) (ls : Array Slot) (rest : List Value) : tx_R → Prop
  | .inl v => W p l e R s m args below meth c H locs cells slots Q (F0 m (pc + 3) ls ((rt.map fun _ => Value.int v).toList ++ rest))
  | .inr E => ∀ (q : Addr) (ce : Cell), H[q]? = some ce → ce.vm = .none → s.vm.findClass E = some ce.cls → tx_W p l e R s m args below meth c H locs cells slots Q (F0 m pc ls rest) q
theorem tx_onI {ty : FieldType} {v : Int32} (k : W p l e R s m args below meth c H locs cells slots Q (F0 m (pc + 3) ls (.int v :: rest))) : tx_On p l e R s m args below meth c H locs cells slots Q (some ty) pc ls rest (.inl v) := k
theorem tx_onV {v : Int32} (k : W p l e R s m args below meth c H locs cells slots Q (F0 m (pc + 3) ls rest)) : tx_On p l e R s m args below meth c H locs cells slots Q none pc ls rest (.inl v) := k
theorem tx_onX {E : String} (k : ∀ (q : Addr) (ce : Cell), H[q]? = some ce → ce.vm = .none → s.vm.findClass E = some ce.cls → tx_W p l e R s m args below meth c H locs cells slots Q (F0 m pc ls rest) q) : tx_On p l e R s m args below meth c H locs cells slots Q rt pc ls rest (.inr E) := k
theorem pc_x {S : Type} {post : tx_R → S → Prop} {Wf : S → va_W} (hP : va_P g.1 pc_cl ws H) (hD : va_D A ws) (hS : va_S A s.heap H locs) (hA : ∀ q, s.heap.size ≤ q → A q) (isC isR : List Nat) (hC : isC.map (fun i => ws[i]?) = wc.map some) (hR : isR.map (fun i => ws[i]?) = wr.map some) (hn : va_nd isR = true) (hdis : ∀ i ∈ isR, i ∉ isC) {cells' slots' : Nat} (hcc : cells + mc = cells') (hss : slots + ms = slots')
    (hr : tx_Run p l e R s m args below meth c H locs cells slots mc ms (F0 m pc ls st0) rest (tx_Q rt post (pc_B g (va_A wc H.size) Wf) (va_A wc H.size) a) (va_A wc H.size))
    (kk : ∀ (r : tx_R) (u : S) (H1 : Heap) (locs1 : List Loc), post r u → va_P g.1 pc_cl (wr ++ Wf u) H1 → va_D A (wr ++ Wf u) → va_S A s.heap H1 locs1 → tx_On p l e R s m args below meth c H1 locs1 cells' slots' Q rt pc ls rest r) : W p l e R s m args below meth c H locs cells slots Q (F0 m pc ls st0) := by
  subst hcc; subst hss
  have hF := va_free (wc := wc) hD hS hA isC hC
  intro T hT X
  obtain ⟨o, st, U, t, L, h0, hal, hU, hL, e1, e2, ⟨⟨r, u, ho, hp, hP1, hD1⟩, hz, hk⟩, hst⟩ := hr T hT X
  rw [h0] at hz hk
  rw [← e1] at hP1 hz hk
  obtain ⟨hP2, hD2⟩ := va_join hP hD isC isR hC hR hn hdis hk hF hP1 hD1
  have hS1 : va_S A s.heap U.heap (locs ++ L) := ⟨Nat.le_trans hS.1 hz, fun q h1 h2 => by rw [hk q (Nat.lt_of_lt_of_le h1 hS.1) (fun z => h2 (hF q z))]; exact hS.2.1 q h1 h2, fun q hq => by
    rcases List.mem_append.mp hq with h | h
    · exact hS.2.2 q h
    · exact hF _ (hL q h)⟩
  have k := kk r u U.heap (locs ++ L) hp hP2 hD2 hS1
  cases r with
  | inl v =>
    have ho : o = .returned (rt.map fun _ => .int v) := ho
    subst ho
    obtain ⟨t2, a1, b1⟩ := k U rfl hU
    exact ⟨t2, Steps.trans hst a1, b1⟩
  | inr E =>
    obtain ⟨q, ce, rfl, q1, q2, q3⟩ := ho
    obtain ⟨t2, a1, b1⟩ := k q ce (by rw [e1]; exact q1) q2 (by rw [← hal.findClass]; exact q3) U rfl hU
    exact ⟨t2, Steps.trans hst a1, b1⟩
end TXX
