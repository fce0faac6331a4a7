/-! THE CLAIM OUT OF ONE WALK OF THE LAW'S BODY. Your part is whole_start (and what it stands on); all else here is the same for every law, but numbers. -/
def R_law : String := "PackColumnsLaw"
def lw_P (b : Addr) (xs : List Int32) (args : Array Value) (s : State) : Prop := args = #[.ref b] ∧ s.IntsAt b xs ∧ xs.length ≤ 3072 ∧ (Jvm.Cond.and given_1 narrow_1).before args s = true
def lw_Q (_ : Array Value) (s : State) (o : Outcome) (t : State) : Prop := o = .returned (some (.int 1)) ∧ Framed s o t [] 601024 7293034
def lw_Z (below : List Frame) (a : Array Value) (s : State) : State → Prop := fun t => ∃ o, t.status = .running ∧ Ended t below o ∧ lw_Q a s o t
/-- the law's own end, with 1 on the stack, nothing written that was there before, its room as the claim has it -/
theorem lw_ret {p : Program} {l : Launch} {e : Env} {s : State} {m : MethodId} {below : List Frame} {meth : Method} {c : Code} {b : Nat} (hx : p.tables.exec = Jvm.exec) (hb : c.code = code) (hr : meth.sig.returnType = ret) (hlocks : meth.locks = false) {pc : Nat} {H : Heap} {ls : Array Slot} (hdg : decode code pc = .ok (.ireturn, 1)) : W p l e room_1 s m #[Value.ref b] below meth c H [] 601024 7293034 (lw_Z below #[Value.ref b] s) (F0 m pc ls [.int 1]) := by
  intro T hT X
  obtain ⟨fs, hret, hrun, hended, hW, hframe⟩ := X.leave (v := some (.int 1)) (hlocks := hlocks) (fun h => by rw [hr] at h; cases h)
  have hmeth' : T.vm.method? m = some meth := X.method'
  refine ⟨T.setFrames fs, ?_, .returned (some (.int 1)), hrun, hended, rfl, ⟨_, rfl⟩, hW, hframe⟩
  jvm_step X.here [X.here.top, hx, hb, hdg, hmeth', hr, ret, narrow_b1]
  (try refine ⟨rfl, ?_⟩); (try refine ⟨rfl, ?_⟩)
  first | (intro acts; rw [hret _ acts rfl rfl rfl]) | rw [hret _ _ rfl rfl rfl]
  exact Steps.refl _
/-- what holds at the law's entry: the machine, the code, the tables' words (any of lw_tbl by 'hts w (by decide +kernel)'), the script of L ints xs at the cell b, what the Statement gives of the start (any of its parts by flat_of_before) -/
def lw_At (p : Program) (s : State) (m : MethodId) (meth : Method) (c : Code) (b L : Nat) (xs : Nat → Int32) : Prop :=
  p.tables.exec = Jvm.exec ∧ c.code = code ∧ meth.sig.returnType = ret ∧ c.maxLocals = 7 ∧ s.vm.findClass R_law = some m.cls ∧ (∀ w ∈ lw_tbl, w.before #[Value.ref b] s = true) ∧ va_X b L xs s s.heap ∧ b < s.heap.size ∧ meth.locks = false ∧ (Jvm.Cond.and given_1 narrow_1).before #[Value.ref b] s = true
theorem law_half {s : State} {a : Array Value} (hs : ∀ c ∈ flatC (Jvm.Cond.and given_1 narrow_1), c.before a s = true) : ∀ j : Nat, j < 16 → (Term.elem (.static R_Crc "HALF_BYTES" "[I") (.int (Int32.ofNat j))).eval a s none [] s = some (.int (pc_half.getD j 0))
  | 0, _ => Cond.eq_int (b := .int (0)) (hs (.eq (.elem (.static R_Crc "HALF_BYTES" "[I") (.int 0)) (.int (0))) (by decide +kernel)) rfl
  | 1, _ => Cond.eq_int (b := .int (498536548)) (hs (.eq (.elem (.static R_Crc "HALF_BYTES" "[I") (.int 1)) (.int (498536548))) (by decide +kernel)) rfl
  | 2, _ => Cond.eq_int (b := .int (997073096)) (hs (.eq (.elem (.static R_Crc "HALF_BYTES" "[I") (.int 2)) (.int (997073096))) (by decide +kernel)) rfl
  | 3, _ => Cond.eq_int (b := .int (651767980)) (hs (.eq (.elem (.static R_Crc "HALF_BYTES" "[I") (.int 3)) (.int (651767980))) (by decide +kernel)) rfl
  | 4, _ => Cond.eq_int (b := .int (1994146192)) (hs (.eq (.elem (.static R_Crc "HALF_BYTES" "[I") (.int 4)) (.int (1994146192))) (by decide +kernel)) rfl
  | 5, _ => Cond.eq_int (b := .int (1802195444)) (hs (.eq (.elem (.static R_Crc "HALF_BYTES" "[I") (.int 5)) (.int (1802195444))) (by decide +kernel)) rfl
  | 6, _ => Cond.eq_int (b := .int (1303535960)) (hs (.eq (.elem (.static R_Crc "HALF_BYTES" "[I") (.int 6)) (.int (1303535960))) (by decide +kernel)) rfl
  | 7, _ => Cond.eq_int (b := .int (1342533948)) (hs (.eq (.elem (.static R_Crc "HALF_BYTES" "[I") (.int 7)) (.int (1342533948))) (by decide +kernel)) rfl
  | 8, _ => Cond.eq_int (b := .int (-306674912)) (hs (.eq (.elem (.static R_Crc "HALF_BYTES" "[I") (.int 8)) (.int (-306674912))) (by decide +kernel)) rfl
  | 9, _ => Cond.eq_int (b := .int (-267414716)) (hs (.eq (.elem (.static R_Crc "HALF_BYTES" "[I") (.int 9)) (.int (-267414716))) (by decide +kernel)) rfl
  | 10, _ => Cond.eq_int (b := .int (-690576408)) (hs (.eq (.elem (.static R_Crc "HALF_BYTES" "[I") (.int 10)) (.int (-690576408))) (by decide +kernel)) rfl
  | 11, _ => Cond.eq_int (b := .int (-882789492)) (hs (.eq (.elem (.static R_Crc "HALF_BYTES" "[I") (.int 11)) (.int (-882789492))) (by decide +kernel)) rfl
  | 12, _ => Cond.eq_int (b := .int (-1687895376)) (hs (.eq (.elem (.static R_Crc "HALF_BYTES" "[I") (.int 12)) (.int (-1687895376))) (by decide +kernel)) rfl
  | 13, _ => Cond.eq_int (b := .int (-2032938284)) (hs (.eq (.elem (.static R_Crc "HALF_BYTES" "[I") (.int 13)) (.int (-2032938284))) (by decide +kernel)) rfl
  | 14, _ => Cond.eq_int (b := .int (-1609899400)) (hs (.eq (.elem (.static R_Crc "HALF_BYTES" "[I") (.int 14)) (.int (-1609899400))) (by decide +kernel)) rfl
  | 15, _ => Cond.eq_int (b := .int (-1111625188)) (hs (.eq (.elem (.static R_Crc "HALF_BYTES" "[I") (.int 15)) (.int (-1111625188))) (by decide +kernel)) rfl
  | j + 16, h => by omega
theorem law_E {s : State} {b : Nat} {A : Nat → Prop} (hts : ∀ w ∈ lw_tbl, w.before #[Value.ref b] s = true) (hgv : (Jvm.Cond.and given_1 narrow_1).before #[Value.ref b] s = true) (hA : ∀ q : Nat, q < s.heap.size → ¬ A q) : ∃ g : pc_G, pc_E g A s s.heap := by
  have hs := flat_of_before _ hgv
  have hT : ∀ w ∈ pc_T, w.before #[Value.ref b] s = true := fun w hw => hts w (List.mem_filter.mp hw).1
  obtain ⟨c0, i0, hk0⟩ := u_known (C := R_Pk) (T := F_Pk) (N := 7) (n := 7) hT in_Pk (hT _ m_21)
  obtain ⟨c1, i1, hk1⟩ := u_known (C := R_Bytes) (T := F_Bytes) (N := 2) (n := 2) hT in_Bytes (hT _ m_29)
  obtain ⟨c2, i2, hk2⟩ := u_known (C := R_Ints) (T := F_Ints) (N := 2) (n := 2) hT in_Ints (hT _ m_68)
  obtain ⟨c3, i3, hk3⟩ := u_known (C := R_Packer) (T := F_Packer) (N := 4) (n := 4) hT in_Packer (hT _ m_48)
  obtain ⟨c4, i4, hk4⟩ := u_known (C := R_Reader) (T := F_Reader) (N := 2) (n := 2) hT in_Reader (hT _ m_287)
  obtain ⟨c5, i5, hk5⟩ := u_known (C := R_Mo) (T := F_Mo) (N := 13) (n := 13) hT in_Mo (hT _ m_484)
  obtain ⟨a0, k0, p0, e0, f0, g0⟩ := Cond.arrayClass_spec (hT _ m_46)
  obtain ⟨a1, k1, p1, e1, f1, g1⟩ := Cond.arrayClass_spec (hT _ m_66)
  obtain ⟨a2, k2, p2, e2, f2, g2⟩ := Cond.arrayClass_spec (hT _ m_713)
  refine ⟨((fun k => if k = 0 then c0 else if k = 1 then c1 else if k = 2 then c2 else if k = 3 then c3 else if k = 4 then c4 else c5, fun k => if k = 0 then i0 else if k = 1 then i1 else if k = 2 then i2 else if k = 3 then i3 else if k = 4 then i4 else i5), a0, a1, a2), ⟨fun w hw => pc_warm (List.mem_filter.mp hw).2 (State.WarmedH.refl s) (hT w hw), ?_, va_Nc.of (hs _ (by decide +kernel))⟩, ⟨?_, ?_⟩, ?_, ?_, ?_⟩
  · intro x hx
    simp only [pc_D, List.mem_cons, List.not_mem_nil, or_false] at hx
    rcases hx with rfl | rfl | rfl
    · exact va_Nw.of rfl (hts (.declares ⟨"java/lang/RuntimeException", "<init>", "()V"⟩) (by decide +kernel))
    · exact va_Nw.of rfl (hts (.declares ⟨"java/lang/Exception", "<init>", "()V"⟩) (by decide +kernel))
    · exact va_Nw.of rfl (hts (.declares ⟨"java/lang/Throwable", "<init>", "()V"⟩) (by decide +kernel))
  · intro k q hq
    match k, hq with
    | 0, hq => cases hq; exact hk0
    | 1, hq => cases hq; exact hk1
    | 2, hq => cases hq; exact hk2
    | 3, hq => cases hq; exact hk3
    | 4, hq => cases hq; exact hk4
    | 5, hq => cases hq; exact hk5
    | k + 6, hq => simp [pc_cl] at hq
  · intro k q hq
    match k, hq with
    | 0, hq => cases hq; exact ⟨fun n z => ⟨fun k h => (by cases h), k0, f0, p0, g0⟩, e0⟩
    | 1, hq => cases hq; exact ⟨fun n z => ⟨fun k h => (by cases h), k1, f1, p1, g1⟩, e1⟩
    | 2, hq => cases hq; exact ⟨fun n z => ⟨fun k h => (by cases h), k2, f2, p2, g2⟩, e2⟩
    | k + 3, hq => simp [pc_ty] at hq
  · exact pc_L.of (hts (.laysStatic Bundle.tN "UNASSIGNED_STACK" Bundle.steD) (by decide +kernel)) (hs _ (by decide +kernel)) hA
  · exact pc_L.of (hts (.laysStatic Bundle.tN "SUPPRESSED_SENTINEL" Bundle.listD) (by decide +kernel)) (hs _ (by decide +kernel)) hA
  · have hlen : (Term.length (.static R_Crc "HALF_BYTES" "[I")).eval #[Value.ref b] s none [] s = some (.int (Int32.ofNat 16)) := Cond.eq_int (b := .int 16) (hs (.eq (.length (.static R_Crc "HALF_BYTES" "[I")) (.int 16)) (by decide +kernel)) rfl
    obtain ⟨t, ht, hTt⟩ := va_Tof (A := A) (tm := .static R_Crc "HALF_BYTES" "[I") (ty := .int) (N := 16) (f := fun j => .int (pc_half.getD j 0)) (by decide) (hs _ (by decide +kernel)) hlen (fun j hj => law_half hs j hj) hA
    exact ⟨t, va_Zref (hts (.laysStatic R_Crc "HALF_BYTES" "[I") (by decide +kernel)) (hts (.initialized R_Crc) (by decide +kernel)) ht hA, hTt⟩
