/-! Methods that throw, and callers that catch: nothing of it is in the kit's worlds. -/
/-- the four words of a throw that speak of the heap -/
def tx_hw : List Cond := [.isRef (.static Bundle.tN "UNASSIGNED_STACK" Bundle.steD), .isRef (.static Bundle.tN "SUPPRESSED_SENTINEL" Bundle.listD), .laysStatic Bundle.tN "UNASSIGNED_STACK" Bundle.steD, .laysStatic Bundle.tN "SUPPRESSED_SENTINEL" Bundle.listD]
/-- the names above an exception of ours -/
def tx_up : List String := ["java/lang/RuntimeException", "java/lang/Exception"]
def tx_all (own : String) (ic : Nat) (X : String) (names : List String) : Bool := (Bundle.ownAtoms0 own ic X names).all (fun w => decide (w ∈ pc_T) || decide (w ∈ pc_D.map Cond.declares) || decide (w ∈ tx_hw))
theorem tx_words {own X : String} {ic : Nat} {names : List String} (ha : tx_all own ic X names = true) {g : pc_G} {A : Nat → Prop} {s : State} {a : Array Value} (hE : pc_E g A s s.heap) : ∀ w ∈ Bundle.ownAtoms0 own ic X names, w.before a s = true := by
  intro w hw
  have h := List.all_eq_true.mp ha w hw
  simp only [Bool.or_eq_true, decide_eq_true_eq] at h
  rcases h with (h | h) | h
  · exact hE.w h
  · obtain ⟨x, hx, rfl⟩ := List.mem_map.mp h
    exact va_Nw.use rfl (hE.1.2.1 x hx)
  · simp only [tx_hw, List.mem_cons, List.not_mem_nil, or_false] at h
    rcases h with rfl | rfl | rfl | rfl
    · exact hE.2.2.1.ref
    · exact hE.2.2.2.1.ref
    · exact hE.2.2.1.lays
    · exact hE.2.2.2.1.lays
section TX
variable {p : Program} {l : Launch} {e : Env} {R : Room} {s : State} {m : MethodId} {args : Array Value} {below : List Frame} {meth : Method} {c : Code} {H : Heap} {locs : List Loc} {cells slots : Nat} {Q Q' : State → Prop}
variable {pc : Nat} {ls : Array Slot} {rest st0 : List Value} {A : Nat → Prop} {mc ms : Nat} {g : pc_G} {cc : ByteArray}
/-- a walk may end in more -/
theorem tx_mono {f : JFrame} (h : ∀ t, Q t → Q' t) (k : W p l e R s m args below meth c H locs cells slots Q f) : W p l e R s m args below meth c H locs cells slots Q' f := fun T hT X => by
  obtain ⟨t, a1, b1⟩ := k T hT X
  exact ⟨t, a1, h t b1⟩
/-- the invocation seen as if it began here, in this heap -/
theorem tx_here {T : State} (X : Stand p l e R s m args below meth c T locs cells slots) {R' : Room} (h1 : R'.frames ≤ R.frames) (h2 : R'.locals ≤ R.locals) (h3 : cells + R'.cells ≤ R.cells) (h4 : slots + R'.slots ≤ R.slots) :
    Stand p l e R' ((T.setVm s.vm).setFrames (.invoking m args :: below)) m args below meth c T [] 0 0 := by
  obtain ⟨g0, hg0⟩ := Option.isSome_iff_exists.mp X.here.top
  obtain ⟨r, hr⟩ := State.topJava?_eq_some.mp hg0
  have hfr : ((T.setVm s.vm).setFrames (.invoking m args :: below)).frames = .invoking m args :: below := State.frames_setFrames _ (State.cur_lt_of_top (s := T.setVm s.vm) X.here.top)
  have hloc : ((T.setVm s.vm).setFrames (.invoking m args :: below)).localsInUse = s.localsInUse := by
    rw [State.localsInUse_invoking hfr (meth := meth) (c := c) X.method X.code, State.localsInUse_invoking X.frames X.method X.code]
  have hlim : e.platform.stackLimits (T.setVm s.vm).me = e.platform.stackLimits s.me := X.limits
  have hbyt : (T.setVm s.vm).me.stackBytes = s.me.stackBytes := X.bytes
  have hsz := X.heapSize
  have hus := X.used
  have hroom : ((T.setVm s.vm).setFrames (.invoking m args :: below)).hasRoom e.platform R' = true := by
    have h := X.room
    simp only [State.hasRoom, Bool.and_eq_true, decide_eq_true_eq, X.frames, List.length_cons] at h
    simp only [State.hasRoom, Bool.and_eq_true, decide_eq_true_eq, hfr, hloc, List.length_cons, State.stackLimits_setFrames, State.stackBytes_setFrames, hlim, hbyt]
    obtain ⟨⟨⟨⟨q1, q2, q3, q4, q5, q6⟩, q7⟩, q8⟩, q9⟩ := h
    exact ⟨⟨⟨⟨by omega, by omega, by omega, by omega, by omega, q6⟩, show T.heap.size + R'.cells ≤ _ by omega⟩, show T.slotsUsed + R'.slots ≤ _ by omega⟩, X.book⟩
  have hnil : T.heap.toList.drop T.heap.size = [] := List.drop_eq_nil_of_le (Nat.le_of_eq Array.length_toList)
  have hsame : ((T.setVm s.vm).setFrames (.invoking m args :: below)).sameButNew (T.setVm ((T.setVm s.vm).setFrames (.invoking m args :: below)).vm) [] 0 0 := by
    refine ⟨?_, Nat.le_refl _, Nat.le_refl _, ?_, ?_, fun a x hx => ⟨x, hx, rfl, rfl, fun _ _ => rfl⟩⟩
    · obtain ⟨t, ht, -⟩ := State.frames_cons (s := T.setVm s.vm) hr
      show T.setVm s.vm = { ((T.setVm s.vm).setFrames (.invoking m args :: below)).setFrames (T.setVm s.vm).frames with heap := T.heap, slotsUsed := T.slotsUsed }
      rw [State.setFrames_setFrames, State.setFrames_self ht]
      rfl
    · show T.slotsUsed = T.slotsUsed + ((T.heap.toList.drop T.heap.size).map (·.slots.size)).sum
      rw [hnil]
      rfl
    · show ((T.heap.toList.drop T.heap.size).map (·.slots.size)).sum ≤ 0
      rw [hnil]
      exact Nat.le_refl _
  exact ⟨X.admits, X.cas, X.clock, hfr, hroom, X.hears, X.method, X.code, X.here, X.tail, X.warmed, by rw [State.stackLimits_setFrames]; rfl, by rw [State.stackBytes_setFrames]; rfl, hsame⟩
/-- what a body that may throw comes to -/
def tx_MQ (below : List Frame) (Qc : Array Value → State → Outcome → State → Prop) (a : Array Value) (s : State) (mc ms : Nat) (free : Addr → Prop) : State → Prop := fun t =>
  ∃ o, t.status = .running ∧ Ended t below o ∧ Qc a s o t ∧ ∃ L, s.WarmedH t.vm ∧ s.sameButNew ({ t with vm := s.vm } : State) L mc ms ∧ ∀ q ∈ L, free q.base
/-- 'throw new E()': new; dup; invokespecial; athrow; E is behind it a new cell, all else is as it was -/
theorem tx_throw {Qc : Array Value → State → Outcome → State → Prop} {free : Addr → Prop} (hexec : p.tables.exec = Jvm.exec) (hb : c.code = cc) (htr : l.stackTraces = false) {own cls : String} {ik ic : Nat}
    (hown : s.vm.findClass own = some m.cls) (hE : pc_E g A s s.heap) (hcls : Bundle.fit cls = true) (hk : Cond.classLink own ik cls ∈ pc_T) (hi : Cond.initialized cls ∈ pc_T) (hal : tx_all own ic cls tx_up = true)
    (hS : va_S A s.heap H locs) (hsize : ls.size = c.maxLocals)
    (d0 : decode cc pc = .ok (.new ik, 3)) (d3 : decode cc (pc + 3) = .ok (.dup, 1)) (d4 : decode cc (pc + 4) = .ok (.invokespecial ic, 3)) (d7 : decode cc (pc + 7) = .ok (.athrow, 1))
    (hout : ∀ x ∈ c.exceptionTable.toList, covers x (pc + 7) = false) (hRf : 5 < R.frames) (hRl : (rest.map fun v => v.category).sum + 81 ≤ R.locals) (hRc : cells + 1 ≤ R.cells) (hRs : slots + 6 ≤ R.slots) (hlocks : meth.locks = false)
    (hq : ∀ (t : State) (q : Addr) (ce : Cell), s.vm.Alike t.vm → t.heap[q]? = some ce → ce.vm = .none → s.vm.findClass cls = some ce.cls → H.size ≤ t.heap.size → (∀ x : Nat, x < H.size → t.heap[x]? = H[x]?) → Qc args s (.threw q) t)
    (hf : ∀ z ∈ locs, free z.base) (hc : cells + 1 ≤ mc) (hs : slots + 6 ≤ ms) : W p l e R s m args below meth c H locs cells slots (tx_MQ below Qc args s mc ms free) (F0 m pc ls rest) := by
  intro T hT X
  have htr' : e.platform.stackTraces = false := (show e.platform.stackTraces = l.stackTraces by rw [X.admits.platform]).trans htr
  have Y := tx_here X (R' := { frames := R.frames, locals := R.locals, cells := 1, slots := 6 }) (Nat.le_refl _) (Nat.le_refl _) hRc hRs
  generalize hs' : (T.setVm s.vm).setFrames (.invoking m args :: below) = s' at Y
  have hvm : s'.vm = s.vm := by rw [← hs']; rfl
  have hhp : s'.heap = H := by rw [← hs']; exact hT
  have hW0 : s.WarmedH s'.vm := by rw [hvm]; exact State.WarmedH.refl s
  have hE' : pc_E g A s' s'.heap := hE.step (by rw [hhp]; exact hS.2.1) (fun _ z => z) hW0
  have hown' : s'.vm.findClass own = some m.cls := by rw [hvm]; exact hown
  have hwd := tx_words (a := args) hal hE'
  have hins : (Cond.instantiable cls 6).before args s' = true := hwd _ (by simp [Bundle.ownAtoms0])
  obtain ⟨vm1, cX, kX, hfX, hkX, -, -, X1, st1⟩ := Y.newCold hexec (own := own) (C := cls) (index := ik) (n := 6) hown' (hE'.w hk) hins (hE'.w hi) (g := F0 m pc ls rest) rfl (by rw [hb]; exact d0) (Nat.le_refl _) (Nat.le_refl _)
  have hnew : ((T.setVm vm1).pushCell { cls := cX, slots := kX.instanceTypes.map defaultValue, vm := .none }).heap[T.heap.size]? = some (freshCell cX kX) := State.heap_pushCell_size _ _
  generalize (T.setVm vm1).pushCell { cls := cX, slots := kX.instanceTypes.map defaultValue, vm := .none } = T1 at X1 st1 hnew
  have hcat : (Value.ref T.heap.size).category = 1 := rfl
  have d3' : decode c.code (pc + 3) = .ok (.dup, 1) := by rw [hb]; exact d3
  obtain ⟨U, hst, hrun, hend, hW, hsm, ce, hce, hO⟩ := X1.ctorThrow0 hexec htr' (own := own) (cls := cls) (names := tx_up) (ic := ic) hown' hcls (by decide) hwd (fun x hx => nomatch hx) hfX hkX hnew (by rw [hhp, hT]; exact Nat.le_refl _)
    (g := { method := m, pc := pc + 4, locals := ls, stack := .ref T.heap.size :: .ref T.heap.size :: rest, locked := none }) rfl hsize rfl rfl (rest := rest) rfl (by rw [hb]; exact d4) (by rw [hb]; exact d7) hout hRf
    (by
      show 2 * 0 + _ + (13 * (2 + 1) + 41) ≤ _
      simp only [List.map_cons, List.sum_cons, hcat]
      omega) hlocks
  have hWs : s.WarmedH U.vm := State.WarmedH.trans hW0 hW
  have hcl : s.vm.findClass cls = some ce.cls := by rw [← hvm]; exact hO.cls
  have hkeep : s'.heap.size ≤ U.heap.size ∧ ∀ x : Nat, x < s'.heap.size → U.heap[x]? = s'.heap[x]? := by
    obtain ⟨-, k2, -, -, -, k6⟩ := hsm
    refine ⟨k2, fun x hx => ?_⟩
    obtain ⟨c2, j1, j2, j3, j4⟩ := k6 x (s'.heap[x]) (Array.getElem?_eq_getElem hx)
    have j1 : U.heap[x]? = some c2 := j1
    have hsl : c2.slots = (s'.heap[x]).slots := Array.ext_getElem? fun i => j4 i (fun z => nomatch z)
    rw [hsl] at j2
    rw [j1, Array.getElem?_eq_getElem hx, j2]
  rw [hhp] at hkeep
  have hall : s.sameButNew ({ U with vm := s.vm } : State) locs mc ms := by
    subst hs'
    obtain ⟨e1, e2⟩ := hsm
    rw [State.setFrames_setFrames] at e1
    have k1 : (T.setVm s.vm).sameButNew ({ U with vm := s.vm } : State) [] (0 + 1) (0 + 6) := ⟨e1, e2⟩
    have k2 := X.same.trans k1
    rw [List.append_nil] at k2
    exact k2.mono hc hs
  refine ⟨U, ?_, .threw T.heap.size, hrun, hend, hq U _ ce hWs.alike hce hO.vm hcl hkeep.1 hkeep.2, locs, hWs, hall, hf⟩
  refine st1 _ ?_
  show Steps p.tables e below (T1.setTop { method := m, pc := pc + 3, locals := ls, stack := .ref T.heap.size :: rest, locked := none }) _
  jvm_step X1.here [X1.here.top, hexec, d3', Value.category]
  exact hst
/-- the frame f, with q thrown over it -/
def tx_W (p : Program) (l : Launch) (e : Env) (R : Room) (s : State) (m : MethodId) (args : Array Value) (below : List Frame) (meth : Method) (c : Code) (H : Heap) (locs : List Loc) (cells slots : Nat) (Q : State → Prop) (f : JFrame) (q : Addr) : Prop :=
  ∀ T : State, T.heap = H → Stand p l e R s m args below meth c T locs cells slots → ∃ t, Steps p.tables e below ((T.setTop f).pushFrame (.throwing q)) t ∧ Q t
/-- it goes on to the caller -/
theorem tx_out {Qc : Array Value → State → Outcome → State → Prop} {free : Addr → Prop} {q : Addr} (hout : ∀ x ∈ c.exceptionTable.toList, covers x pc = false) (hlocks : meth.locks = false) (hq : ∀ t : State, t.heap = H → s.vm.Alike t.vm → Qc args s (.threw q) t) (hf : ∀ z ∈ locs, free z.base) (hc : cells ≤ mc) (hs : slots ≤ ms) :
    tx_W p l e R s m args below meth c H locs cells slots (tx_MQ below Qc args s mc ms free) (F0 m pc ls rest) q := fun T hT X => by
  obtain ⟨a1, a2, a3, a4, a5⟩ := X.leaveThrown q (g := F0 m pc ls rest) rfl rfl rfl hout hlocks
  exact ⟨_, a1, .threw q, a2, a3, hq _ hT a4.alike, locs, a4, a5.mono hc hs, hf⟩
theorem tx_widen {f : JFrame} {q : Addr} {k n : Nat} (h1 : cells ≤ k) (h2 : slots ≤ n) (kk : tx_W p l e R s m args below meth c H locs k n Q f q) : tx_W p l e R s m args below meth c H locs cells slots Q f q := fun T hT X => kk T hT (stand_widen X h1 h2)
/-- a search that may resolve classes on its way -/
def tx_Finds (e : Env) (S : State) (f : JFrame) (a : Addr) (h : Handler) (vm' : Vm) : Prop := ∀ (Qh : Handler → Pre) (E : CtlPost) (d : Bool) (acts : List Action), wp (findHandler f a) Qh E e d acts S ↔ Qh h d acts (S.setVm vm')
/-- one row that covers the place and names a class by a link: taken, or passed -/
theorem tx_row {Qh : Handler → Pre} {E : CtlPost} {d : Bool} {acts : List Action} {S : State} {f : JFrame} {a : Addr} {x : ExceptionTableEntry} {t : List ExceptionTableEntry} {cid : ClassId} {cell : Cell} (hx : covers x f.pc = true) (h0 : x.catchType ≠ 0)
    (hl : S.vm.ClassLinks e.platform f.method.cls x.catchType cid) (hcell : S.heap[a]? = some cell) (hobj : ∀ k, cell.vm ≠ .statics k) (hk : ∃ k, S.vm.classes[cell.cls]? = some k) (hc : ∃ k, S.vm.classes[cid]? = some k) :
    wp (findHandler.go f a (x :: t)) Qh E e d acts S ↔ if S.vm.assignable cell.cls cid = true then Qh (.found x.handlerPc) d acts (S.setVm (S.vm.noted f.method.cls x.catchType (.cls cid))) else wp (findHandler.go f a t) Qh E e d acts (S.setVm (S.vm.noted f.method.cls x.catchType (.cls cid))) := by
  simp only [covers] at hx
  obtain ⟨q1, q2⟩ := (resolveClass_links e.toSetting hl).op (op := VmOp.resolveClass f.method.cls x.catchType) rfl
  have hal : S.vm.Alike (S.vm.noted f.method.cls x.catchType (.cls cid)) := (Vm.Alike.refl S.vm).noted _ _ _
  obtain ⟨k1, hk1⟩ := hk
  obtain ⟨k2, hk2⟩ := hc
  obtain ⟨k3, hk3, -⟩ := hal.2.2 _ _ hk1
  obtain ⟨k4, hk4, -⟩ := hal.2.2 _ _ hk2
  have hsame := hal.assignable cell.cls cid
  cases hfit : S.vm.assignable cell.cls cid <;> rw [hfit] at hsame <;> simp [findHandler.go, hx, h0, q1, q2, hcell, hobj, hk3, hk4, hsame, VmOp.dirties, VmOp.acts]
/-- a row of the table whose class, by its link, takes the object or not -/
def tx_Row (pl : Platform) (s0 : State) (f : JFrame) (thrown : ClassId) (takes : Bool) (x : ExceptionTableEntry) : Prop := covers x f.pc = true ∧ x.catchType ≠ 0 ∧ ∃ cid, s0.vm.ClassLinks pl f.method.cls x.catchType cid ∧ s0.vm.assignable thrown cid = takes
theorem tx_go {s0 : State} {f : JFrame} {a : Addr} {cell : Cell} (hobj : ∀ k, cell.vm ≠ .statics k) (hk0 : ∃ k, s0.vm.classes[cell.cls]? = some k) (x : ExceptionTableEntry) (suf : List ExceptionTableEntry) (hx : tx_Row e.platform s0 f cell.cls true x) :
    ∀ (pre : List ExceptionTableEntry) (S : State), s0.WarmedH S.vm → S.heap[a]? = some cell → (∀ y ∈ pre, tx_Row e.platform s0 f cell.cls false y) →
      ∃ vm', s0.WarmedH vm' ∧ ∀ (Qh : Handler → Pre) (E : CtlPost) (d : Bool) (acts : List Action), wp (findHandler.go f a (pre ++ x :: suf)) Qh E e d acts S ↔ Qh (.found x.handlerPc) d acts (S.setVm vm') := by
  obtain ⟨k0, hk0⟩ := hk0
  have one : ∀ (y : ExceptionTableEntry) (b : Bool) (S : State), s0.WarmedH S.vm → S.heap[a]? = some cell → tx_Row e.platform s0 f cell.cls b y → ∃ vm', s0.WarmedH vm' ∧ ∀ (t : List ExceptionTableEntry) (Qh : Handler → Pre) (E : CtlPost) (d : Bool) (acts : List Action), wp (findHandler.go f a (y :: t)) Qh E e d acts S ↔ if b = true then Qh (.found y.handlerPc) d acts (S.setVm vm') else wp (findHandler.go f a t) Qh E e d acts (S.setVm vm') := by
    intro y b S hW hcell hy
    obtain ⟨h1, h2, cid, hl, has⟩ := hy
    obtain ⟨k1, hk1, -⟩ := hW.alike.2.2 _ _ hk0
    obtain ⟨dk, _, _, kt, hd, _, _, _, _, hkt, _, hopen⟩ := hl.here
    obtain ⟨k2, hk2, -⟩ := hW.alike.2.2 _ _ hkt
    refine ⟨_, hW.noted hd hopen (State.rightAt_cls hl), fun t Qh E d acts => ?_⟩
    rw [tx_row h1 h2 (hW.classLinks hl) hcell hobj ⟨k1, hk1⟩ ⟨k2, hk2⟩, hW.alike.assignable, has]
  intro pre
  induction pre with
  | nil =>
    intro S hW hcell _
    obtain ⟨vm', h1, h2⟩ := one x true S hW hcell hx
    exact ⟨vm', h1, fun Qh E d acts => by rw [List.nil_append, h2, if_pos rfl]⟩
  | cons y ys ih =>
    intro S hW hcell hp
    obtain ⟨vm1, h1, h2⟩ := one y false S hW hcell (hp y List.mem_cons_self)
    obtain ⟨vm', h3, h4⟩ := ih (S.setVm vm1) h1 hcell (fun z hz => hp z (List.mem_cons_of_mem _ hz))
    exact ⟨vm', h3, fun Qh E d acts => by rw [List.cons_append, h2, if_neg (by decide), h4]; rfl⟩
theorem tx_step1 {S : State} {a : Addr} {f : JFrame} {r : List Frame} {hp : Nat} {vm' : Vm} (hfind : tx_Finds e S f a (.found hp) vm') :
    (stepThrowing e S a (.java f :: r)).Is ((S.setVm vm').setFrames (.java { f with pc := hp, stack := [.ref a] } :: r)) [] := by
  simp only [stepThrowing, searchFrame, vmDo]
  generalize hr : Sem.go _ e false [] S = res
  obtain ⟨as, rfl, ha⟩ := Sem.eq_ok_of hr (a := Handler.found hp) (s' := S.setVm vm') (acts' := []) (by simp [hfind _ _ _ _])
  exact ⟨rfl, ha⟩
theorem tx_step {tb : Tables} {S target : State} {a : Addr} {f : JFrame} {hp : Nat} {vm' : Vm} (h : At S f.method c below) (hfind : tx_Finds e ((S.setTop f).pushFrame (.throwing a)) f a (.found hp) vm')
    (hrest : Steps tb e below ((S.setVm vm').setTop { f with pc := hp, stack := [.ref a] }) target) : Steps tb e below ((S.setTop f).pushFrame (.throwing a)) target := by
  obtain ⟨hgo, hw⟩ := h.throwing a
  refine Steps.head hgo hw ?_
  rw [stepThread_throwing (frames_entered h.top _), (tx_step1 hfind).1]
  obtain ⟨g0, hg⟩ := Option.isSome_iff_exists.mp h.top
  obtain ⟨r, hr⟩ := State.topJava?_eq_some.mp hg
  have hr' : (S.setVm vm').frames = .java g0 :: r := hr
  rw [State.setTop_of_frames _ hr'] at hrest
  have key : (((S.setTop f).pushFrame (.throwing a)).setVm vm').setFrames (.java { f with pc := hp, stack := [.ref a] } :: S.frames.tail) = (S.setVm vm').setFrames (.java { f with pc := hp, stack := [.ref a] } :: r) := by
    rw [State.pushFrame, State.frames_setTop _ hr, State.setTop_of_frames _ hr, State.setFrames_setFrames, hr]
    show ((S.setVm vm').setFrames _).setFrames _ = _
    rw [State.setFrames_setFrames]
    rfl
  rw [key]
  exact hrest
/-- caught here: by the row x of the table; the rows ahead of it, pre, name other classes -/
theorem tx_catch {own name E : String} {ce : Cell} {q : Addr} {H0 : Heap} (hE : pc_E g A s H0) (hown : s.vm.findClass own = some m.cls) (pre : List ExceptionTableEntry) (x : ExceptionTableEntry) (suf : List ExceptionTableEntry) (hsplit : c.exceptionTable.toList = pre ++ x :: suf)
    (hpass : ∀ z ∈ pre, covers z pc = true ∧ z.catchType ≠ 0 ∧ ∃ nm : String, Cond.classLink own z.catchType nm ∈ pc_T ∧ va_Nc E nm s) (hx : covers x pc = true) (h0 : x.catchType ≠ 0)
    (hlink : Cond.classLink own x.catchType name ∈ pc_T) (hcast : Cond.castable E name ∈ pc_T) (hcell : H[q]? = some ce) (hv : ce.vm = .none) (hcl : s.vm.findClass E = some ce.cls)
    (kk : W p l e R s m args below meth c H locs cells slots Q (F0 m x.handlerPc ls [.ref q])) : tx_W p l e R s m args below meth c H locs cells slots Q (F0 m pc ls rest) q := by
  intro T hT X
  have hpl : e.platform.magicAccessors = ({} : Platform).magicAccessors := by rw [X.admits.platform]
  obtain ⟨c3, c4, hc3, hc4, hasg⟩ := Cond.castable_spec (hE.w hcast (a := args))
  cases Option.some.inj (hc3.symm.trans hcl)
  obtain ⟨c5, hc5, hcl5⟩ := Cond.classLink_spec hown (hE.w hlink (a := args)) e.platform hpl
  cases Option.some.inj (hc4.symm.trans hc5)
  obtain ⟨k9, hk9, -⟩ := Vm.findClass_spec hcl
  have hobj : ∀ k, ce.vm ≠ .statics k := fun k z => by rw [hv] at z; cases z
  obtain ⟨vm', hW', hgo⟩ := tx_go (e := e) (s0 := s) (f := F0 m pc ls rest) (a := q) (cell := ce) hobj ⟨k9, hk9⟩ x suf ⟨hx, h0, c4, hcl5, hasg⟩ pre ((T.setTop (F0 m pc ls rest)).pushFrame (.throwing q)) X.warmed (by show T.heap[q]? = _; rw [hT]; exact hcell) (fun z hz => by
    obtain ⟨z1, z2, nm, z3, a8, b8, z4, z5, z6⟩ := hpass z hz
    obtain ⟨c6, hc6, hcl6⟩ := Cond.classLink_spec hown (hE.w z3 (a := args)) e.platform hpl
    cases Option.some.inj (z4.symm.trans hcl)
    cases Option.some.inj (z5.symm.trans hc6)
    exact ⟨z1, z2, _, hcl6, z6⟩)
  obtain ⟨t, a1, b1⟩ := kk (T.setVm vm') hT (X.noted hW')
  refine ⟨t, tx_step (f := F0 m pc ls rest) X.here (fun Qh E d acts => ?_) a1, b1⟩
  rw [Jvm.W.findHandler_eq (meth := meth) (code := c) X.method' X.code, hsplit]
  exact hgo Qh E d acts
end TX
