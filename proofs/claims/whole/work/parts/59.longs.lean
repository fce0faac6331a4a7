/-! long[] -/
section PCL
variable {p : Program} {l : Launch} {e : Env} {R : Room} {s : State} {m : MethodId} {args : Array Value} {below : List Frame} {meth : Method} {c : Code} {H : Heap} {locs : List Loc} {cells slots : Nat} {Q : State → Prop}
variable {pc : Nat} {ls : Array Slot} {rest : List Value} {A : Nat → Prop} {g : pc_G} {ws : va_W} {cc : ByteArray}
theorem pc_lald {ar N j : Nat} {f : Nat → Int64} (hexec : p.tables.exec = Jvm.exec) (hb : c.code = cc) (hK : va_K g.1 pc_cl (pc_ty g) s) (hP : va_P g.1 pc_cl ws H) (q0 t0 : Nat) {cA : ClassId} (ha : ws[q0]? = some (ar, .inl (cA, N, .inr (.inl f)))) (ht : (pc_ty g)[t0]? = some (cA, .long)) (hj : j < N) (hN : N < 2 ^ 31) (hdg : decode cc pc = .ok (.laload, 1))
    (kk : W p l e R s m args below meth c H locs cells slots Q (F0 m (pc + 1) ls (.long (f j) :: rest))) : W p l e R s m args below meth c H locs cells slots Q (F0 m pc ls (.int (nI j) :: .ref ar :: rest)) := by
  refine va_lald hexec hb hK hP q0 t0 ha ht (vp_in_nI hj hN) hdg ?_
  rw [nI_clamp (Nat.lt_trans hj hN)]
  exact kk
theorem pc_lsto {ar N j : Nat} {f : Nat → Int64} {x : Int64} (hexec : p.tables.exec = Jvm.exec) (hb : c.code = cc) (hK : va_K g.1 pc_cl (pc_ty g) s) (hP : va_P g.1 pc_cl ws H) (hD : va_D A ws) (hS : va_S A s.heap H locs) (q0 t0 : Nat) {cA : ClassId} (ha : ws[q0]? = some (ar, .inl (cA, N, .inr (.inl f)))) (ht : (pc_ty g)[t0]? = some (cA, .long)) (hj : j < N) (hN : N < 2 ^ 31) (hdg : decode cc pc = .ok (.lastore, 1))
    (kk : ∀ (H1 : Heap) (locs1 : List Loc), va_P g.1 pc_cl (ws.set q0 (ar, .inl (cA, N, .inr (.inl (vp_updL f j x))))) H1 → va_D A (ws.set q0 (ar, .inl (cA, N, .inr (.inl (vp_updL f j x))))) → va_S A s.heap H1 locs1 → W p l e R s m args below meth c H1 locs1 cells slots Q (F0 m (pc + 1) ls rest)) : W p l e R s m args below meth c H locs cells slots Q (F0 m pc ls (.long x :: .int (nI j) :: .ref ar :: rest)) := by
  refine va_last hexec hb hK hP hD hS q0 t0 ha ht (vp_in_nI hj hN) hdg (fun H1 locs1 h1 h2 h3 => ?_)
  rw [nI_clamp (Nat.lt_trans hj hN)] at h1 h2
  exact kk H1 locs1 h1 h2 h3
end PCL
theorem updL_0 (f : Nat → Int64) (x : Int64) : vp_updL f 0 x 0 = x := by simp [vp_updL]
