/-! Calls that return or throw. -/
def tx_Met (l : Launch) (y : MethodName) (ws : List Cond) (rm : Room) (Pc : Array Value → State → Prop) (Qc : Array Value → State → Outcome → State → Prop) (mc ms : Nat) (free : Addr → Prop) : Prop :=
  MetFree l y (headSpec ws rm) Pc (fun _ _ _ _ _ => True) (fun a st o t => Qc a st o t ∧ ∃ L, st.WarmedH t.vm ∧ st.sameButNew ({ t with vm := st.vm } : State) L mc ms ∧ ∀ q ∈ L, free q.base)
/-- what a code word says of a method, whatever its table -/
def tx_cd (y : MethodName) (maxL : Nat) (U : State) : Prop := ∃ (mk : MethodId) (meth : Method) (c : Code), U.methodNamed? y = some mk ∧ U.vm.method? mk = some meth ∧ meth.code = some c ∧ c.maxLocals = maxL ∧ parseMethodDescriptor y.desc = some meth.sig
theorem tx_cd.plain {y : MethodName} {bytes : ByteArray} {maxL : Nat} {ret : Option FieldType} {a : Array Value} {U : State} (h : (Cond.code y bytes maxL ret).before a U = true) : tx_cd y maxL U := by
  obtain ⟨mk, hn⟩ := Cond.code_named h
  obtain ⟨meth, c, h1, h2, -, h4, -, -, -, h8⟩ := Cond.code_spec hn h
  exact ⟨mk, meth, c, hn, h1, h2, h4, h8⟩
theorem tx_cd.with {y : MethodName} {bytes : ByteArray} {maxL : Nat} {ret : Option FieldType} {hh : List (Nat × Nat × Nat × Nat)} {a : Array Value} {U : State} (h : (Cond.codeWith y bytes maxL ret hh).before a U = true) : tx_cd y maxL U := by
  obtain ⟨mk, meth, c, hn, h1, h2, -, h4, -, -, -, h8⟩ := Cond.codeWith_spec h
  exact ⟨mk, meth, c, hn, h1, h2, h4, h8⟩
section TXC
variable {p : Program} {l : Launch} {e : Env} {R : Room} {s : State} {m : MethodId} {args : Array Value} {below : List Frame} {meth : Method} {c : Code} {T : State} {H : Heap} {locs : List Loc} {cells slots : Nat} {Q : State → Prop}
variable {y : MethodName} {wd : Cond} {rm : Room} {Pc : Array Value → State → Prop} {Qc : Array Value → State → Outcome → State → Prop} {free : Addr → Prop} {maxL : Nat}
/-- where the caller stands behind the call -/
def tx_to (U : State) (f : JFrame) (len : Nat) : Outcome → State
  | .returned v => U.setTop { f with pc := f.pc + len, stack := v.toList ++ f.stack }
  | .threw q => (U.setTop f).pushFrame (.throwing q)
theorem tx_call (X : Stand p l e R s m args below meth c T locs cells slots) (hM : tx_Met l y [wd] rm Pc Qc rm.cells rm.slots free) {f : JFrame} (hf : f.method = m) (hsize : f.locals.size = c.maxLocals) {ig : Instr} {len : Nat} (hdg : decode c.code f.pc = .ok (ig, len))
    (hw : 2 * f.monitorRoom + (f.stack.map fun v => v.category).sum ≤ 8) {mk : MethodId} {a : Array Value} (hn : T.methodNamed? y = some mk) (hcd : tx_cd y maxL T) (hini : (Cond.initialized y.cls).before a T = true) (hwd : wd.before a T = true)
    (hRf : rm.frames + 1 ≤ R.frames) (hRl : 8 + (maxL + 11) + rm.locals ≤ R.locals) (hRc : cells + rm.cells ≤ R.cells) (hRs : slots + rm.slots ≤ R.slots) (hP : Pc a (T.calling f mk a)) :
    ∃ (o : Outcome) (U t : State) (L : List Loc), Stand p l e R s m args below meth c U (locs ++ L) (cells + rm.cells) (slots + rm.slots) ∧ U.heap = t.heap ∧ U.vm = t.vm ∧ Qc a (T.calling f mk a) o t ∧ (∀ q ∈ L, free q.base) ∧
      Steps p.tables e below (doInvoke e (T.setTop f) [] mk a).1 (tx_to U f len o) := by
  obtain ⟨mk', methY, cY, hn', hmY, hcY, hlY, -⟩ := hcd
  cases hn.symm.trans hn'
  obtain ⟨kY, hkY, -⟩ := className_of_methodNamed hn
  have hk1 : kY.init = .initialized := Cond.initialized_spec (findClass_of_methodNamed hn) hkY hini
  have hat : At T f.method c below := by rw [hf]; exact X.here
  have happ : (headSpec [wd] rm).appliesLoose y e.platform (T.calling f mk a) = true := Spec.appliesLoose_calling (g := f) hat hdg hn hkY hk1 (X.room_calling (g := f) (R' := rm) hsize hmY hcY hRf (by rw [hlY]; omega) hRc hRs)
    (atoms_intro fun w hw' => by cases List.mem_singleton.mp hw'; exact hwd)
  obtain ⟨mid, hmid⟩ := hat.above
  have hfr : (T.setTop f).frames = (.java f :: mid) ++ below := by rw [State.frames_setTop' f hat.top, hmid]; rfl
  obtain ⟨o, t, hst, -, hend, hq, L, hW, ⟨e2, q2⟩, hL⟩ := Steps.callFree hM p X.admits X.cas X.clock (acts := []) hfr happ hP trivial
  rw [State.frames_setTop' f hat.top] at hend
  have hWT : T.WarmedH t.vm := hW
  obtain ⟨g0, hg0⟩ := Option.isSome_iff_exists.mp hat.top
  obtain ⟨r, hr⟩ := State.topJava?_eq_some.mp hg0
  have hshape : t = ({ (T.calling f mk a).setFrames t.frames with heap := t.heap, slotsUsed := t.slotsUsed } : State).setVm t.vm := by
    have e3 : ({ t with vm := (T.calling f mk a).vm } : State) = { (T.calling f mk a).setFrames t.frames with heap := t.heap, slotsUsed := t.slotsUsed } := e2
    have z : t = ({ t with vm := (T.calling f mk a).vm } : State).setVm t.vm := rfl
    rw [e3] at z
    exact z
  have hsame : T.sameButNew ({ T with heap := t.heap, slotsUsed := t.slotsUsed } : State) L rm.cells rm.slots := by
    refine ⟨?_, q2⟩
    obtain ⟨th, hth, -⟩ := State.frames_cons hr
    show ({ T with heap := t.heap, slotsUsed := t.slotsUsed } : State) = { T.setFrames T.frames with heap := t.heap, slotsUsed := t.slotsUsed }
    rw [State.setFrames_self hth]
  have hU : Stand p l e R s m args below meth c (({ T with heap := t.heap, slotsUsed := t.slotsUsed } : State).setVm t.vm) (locs ++ L) (cells + rm.cells) (slots + rm.slots) :=
    ⟨X.admits, X.cas, X.clock, X.frames, X.room, X.hears, X.method, X.code, (X.here.setHeapUsed t.heap t.slotsUsed).setVm hWT.alike, X.tail, State.WarmedH.trans X.warmed hWT, X.limits, X.bytes, X.same.trans (hsame.setVm s.vm)⟩
  have hr' : (({ T with heap := t.heap, slotsUsed := t.slotsUsed } : State).setVm t.vm).frames = .java g0 :: r := hr
  refine ⟨o, _, t, L, hU, rfl, rfl, hq, hL, ?_⟩
  have key : t = tx_to (({ T with heap := t.heap, slotsUsed := t.slotsUsed } : State).setVm t.vm) f len o := by
    cases o with
    | returned v =>
      obtain ⟨c2, i2, len2, hc2, hd2, hf2⟩ := hend
      have hcc : c2 = c := by
        have z : t.code? f.method = T.code? f.method := by rw [State.code?_eq, State.code?_eq, hWT.alike.method?]
        exact Option.some.inj (hc2.symm.trans (z.trans hat.code))
      subst hcc
      rw [hdg] at hd2
      cases hd2
      show t = State.setTop _ _
      refine hshape.trans ?_
      rw [hf2, State.calling_eq hat.top, State.setFrames_setFrames, State.setTop_of_frames _ hr', hr]
      rfl
    | threw q =>
      have hf2 : t.frames = .throwing q :: .java f :: T.frames.tail := hend
      show t = State.pushFrame (State.setTop _ _) _
      refine hshape.trans ?_
      rw [hf2, State.calling_eq hat.top, State.setFrames_setFrames, State.pushFrame, State.frames_setTop _ hr', State.setTop_of_frames _ hr', State.setFrames_setFrames, hr]
      rfl
  rw [← key]
  exact hst
/-- a call, from the instruction to where it goes on -/
def tx_Run (p : Program) (l : Launch) (e : Env) (R : Room) (s : State) (m : MethodId) (args : Array Value) (below : List Frame) (meth : Method) (c : Code) (H : Heap) (locs : List Loc) (cells slots mc ms : Nat) (f : JFrame) (rest : List Value) (Qa : State → Outcome → State → Prop) (free : Addr → Prop) : Prop :=
  ∀ T : State, T.heap = H → Stand p l e R s m args below meth c T locs cells slots → ∃ (o : Outcome) (st U t : State) (L : List Loc), st.heap = H ∧ s.vm.Alike st.vm ∧ Stand p l e R s m args below meth c U (locs ++ L) (cells + mc) (slots + ms) ∧ (∀ q ∈ L, free q.base) ∧ U.heap = t.heap ∧ U.vm = t.vm ∧ Qa st o t ∧
    Steps p.tables e below (T.setTop f) (tx_to U { f with stack := rest } 3 o)
variable {own C : String} {index nL n : Nat} {cc : ByteArray} {b : Addr} {As rest : List Value} {f : JFrame} {g : pc_G} {A : Nat → Prop} {H0 : Heap}
theorem tx_runV (hE : pc_E g A s H0) (hx : p.tables.exec = Jvm.exec) (hb : c.code = cc) (hml : c.maxLocals = nL) (hown : s.vm.findClass own = some m.cls) (hM : tx_Met l y [wd] rm Pc Qc rm.cells rm.slots free) (hcd : ∀ U : State, s.WarmedH U.vm → tx_cd y maxL U) (hwd : wd ∈ pc_T) (hini : Cond.initialized y.cls ∈ pc_T) (hlink : Cond.methodLink own index y ∈ pc_T) (hinst : Cond.instanceMethod y ∈ pc_T) (hsel : Cond.selects C y y ∈ pc_T)
    (hd : y.cls ≠ "java/lang/invoke/MethodHandle" ∧ y.cls ≠ "java/lang/invoke/VarHandle" ∧ (parseMethodDescriptor y.desc).map (fun d => d.parameters.length) = some n) (hp : PreV s H C b Pc As) (hR : rm.frames + 1 ≤ R.frames ∧ 8 + (maxL + 11) + rm.locals ≤ R.locals)
    (hg : f.method = m) (hn : As.length = n) (hsize : f.locals.size = nL) (hstack : f.stack = As.reverse ++ .ref b :: rest) (hW : 2 * f.monitorRoom + (rest.map fun v => v.category).sum ≤ 8) (hdg : decode cc f.pc = .ok (.invokevirtual index, 3)) (hf : cells + rm.cells ≤ R.cells ∧ slots + rm.slots ≤ R.slots) :
    tx_Run p l e R s m args below meth c H locs cells slots rm.cells rm.slots f rest (Qc (Value.ref b :: As).toArray) free := by
  intro T hT X
  obtain ⟨hbl, ⟨cellB, hcB, hoB, hclB⟩, hPc⟩ := hp
  obtain ⟨mk, methM, hnamed, hmethM, hstM, habM⟩ := Cond.instanceMethod_spec (hE.w hinst (a := args))
  obtain ⟨mk2, meth2, c2, hn2, hm2, -, -, hsig⟩ := hcd s (State.WarmedH.refl s)
  cases hnamed.symm.trans hn2
  cases hmethM.symm.trans hm2
  obtain ⟨c3, r3, m3, q1, q2, q3, q4, kP, hkP, hkPi⟩ := Cond.selects_spec (hE.w hsel (a := args))
  cases hclB.symm.trans q1
  cases (State.methodFound?_of_named hnamed ⟨hd.1, hd.2.1⟩).symm.trans q2
  cases hnamed.symm.trans q3
  have hselP : selectMethod e.platform s.vm cellB.cls mk = .method mk := by rw [Launch.admits_selectMethod X.admits]; exact q4
  have hlen : As.length = methM.sig.parameters.length := by
    have z := hd.2.2
    rw [hsig] at z
    exact hn.trans (Option.some.inj z).symm
  obtain ⟨vm1, X1, hst1⟩ := X.invokevirtual hx hown (hE.w hlink) hnamed hmethM hstM hkP hkPi ⟨hd.1, hd.2.1⟩ (a := b) (cell := cellB) (by rw [hT]; exact hcB) (fun z h => by rw [h] at hoB; cases hoB) hselP hmethM habM hkP hkPi (g := f) hg (argsL := As) (rest := rest) hlen hstack (by rw [hb]; exact hdg)
  obtain ⟨o, U, t, L, hU, e1, e2, hq, hL, hst⟩ := tx_call (a := (Value.ref b :: As).toArray) X1 hM (f := { f with stack := rest }) hg (hsize.trans hml.symm) (ig := .invokevirtual index) (len := 3) (by rw [hb]; exact hdg) hW (X1.named hnamed) (hcd _ X1.warmed) (hE.1.at X1.warmed hini _) (hE.1.at X1.warmed hwd _) hR.1 hR.2 hf.1 hf.2 (hbl _ _ _ _ (hPc (T.setVm vm1) hT X1.warmed))
  exact ⟨o, (T.setVm vm1).calling { f with stack := rest } mk (Value.ref b :: As).toArray, U, t, L, hT, X1.warmed.alike, hU, hL, e1, e2, hq, hst1 _ fun acts => by rw [doInvoke_state]; exact hst⟩
theorem tx_runS (hE : pc_E g A s H0) (hx : p.tables.exec = Jvm.exec) (hb : c.code = cc) (hml : c.maxLocals = nL) (hown : s.vm.findClass own = some m.cls) (hM : tx_Met l y [wd] rm Pc Qc rm.cells rm.slots free) (hcd : ∀ U : State, s.WarmedH U.vm → tx_cd y maxL U) (hwd : wd ∈ pc_T) (hini : Cond.initialized y.cls ∈ pc_T) (hlink : Cond.methodLink own index y ∈ pc_T) (hstat : Cond.static y ∈ pc_T)
    (hd : y.cls ≠ "java/lang/invoke/MethodHandle" ∧ y.cls ≠ "java/lang/invoke/VarHandle" ∧ (parseMethodDescriptor y.desc).map (fun d => d.parameters.length) = some n) (hp : PreS s H Pc As) (hR : rm.frames + 1 ≤ R.frames ∧ 8 + (maxL + 11) + rm.locals ≤ R.locals)
    (hg : f.method = m) (hn : As.length = n) (hsize : f.locals.size = nL) (hstack : f.stack = As.reverse ++ rest) (hW : 2 * f.monitorRoom + (rest.map fun v => v.category).sum ≤ 8) (hdg : decode cc f.pc = .ok (.invokestatic index, 3)) (hf : cells + rm.cells ≤ R.cells ∧ slots + rm.slots ≤ R.slots) :
    tx_Run p l e R s m args below meth c H locs cells slots rm.cells rm.slots f rest (Qc As.toArray) free := by
  intro T hT X
  obtain ⟨hbl, hPc⟩ := hp
  obtain ⟨mk, methM, c2, hnamed, hmethM, -, -, hsig⟩ := hcd s (State.WarmedH.refl s)
  have hst0 : methM.isStatic = true := Cond.static_spec hnamed hmethM (hE.w hstat (a := args))
  obtain ⟨kP, hkP, -⟩ := className_of_methodNamed hnamed
  have hkI : kP.init = .initialized := Cond.initialized_spec (findClass_of_methodNamed hnamed) hkP (hE.w hini (a := args))
  have hlen : As.length = methM.sig.parameters.length := by
    have z := hd.2.2
    rw [hsig] at z
    exact hn.trans (Option.some.inj z).symm
  obtain ⟨vm1, X1, hst1⟩ := X.invokestatic hx hown (hE.w hlink) hnamed hmethM hst0 hkP hkI ⟨hd.1, hd.2.1⟩ (g := f) hg (argsL := As) (rest := rest) hlen hstack (by rw [hb]; exact hdg)
  obtain ⟨o, U, t, L, hU, e1, e2, hq, hL, hst⟩ := tx_call (a := As.toArray) X1 hM (f := { f with stack := rest }) hg (hsize.trans hml.symm) (ig := .invokestatic index) (len := 3) (by rw [hb]; exact hdg) hW (X1.named hnamed) (hcd _ X1.warmed) (hE.1.at X1.warmed hini _) (hE.1.at X1.warmed hwd _) hR.1 hR.2 hf.1 hf.2 (hbl _ _ _ _ (hPc (T.setVm vm1) hT X1.warmed))
  exact ⟨o, (T.setVm vm1).calling { f with stack := rest } mk As.toArray, U, t, L, hT, X1.warmed.alike, hU, hL, e1, e2, hq, hst1 _ fun acts => by rw [doInvoke_state]; exact hst⟩
end TXC
