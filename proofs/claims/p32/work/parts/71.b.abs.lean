section ABS
variable {p : Program} {l : Launch} {e : Env} {R : Room} {s : State} {m : MethodId} {args : Array Value} {below : List Frame} {meth : Method} {c : Code} {H : Heap} {locs : List Loc} {cells slots : Nat} {Q : State → Prop}
variable {cc : ByteArray} {pc : Nat} {ls : Array Slot}
/-- Math.abs of a double that is no NaN: the machine's own -/
theorem p_absd (hx : p.tables.exec = Jvm.exec) (hb : c.code = cc) (hml : c.maxLocals = ls.size) {own : String} {index : Nat} (hown : s.vm.findClass own = some m.cls) (hlink : (Cond.methodLink own index yJ9_abs_294c1).before args s = true) (hstat : (Cond.static yJ9_abs_294c1).before args s = true) (hini : (Cond.initialized RJ9).before args s = true) (hcode : (Cond.code yJ9_abs_294c1 cJ9_abs_294c1 2 (some .double)).before args s = true) {b : UInt64} (hn : vf_n64 b) (hfr : 1 ≤ R.frames) (hlo : 8 + (2 + 11) ≤ R.locals) (hdg : decode cc pc = .ok (.invokestatic index, 3)) (kk : W p l e R s m args below meth c H locs cells slots Q (F0 m (pc + 3) ls [.double (b &&& 0x7fffffffffffffff)])) : W p l e R s m args below meth c H locs cells slots Q (F0 m pc ls [.double b]) := by
  intro T hT X
  have hy : Jvm.Free.NT.mathAbs64N = yJ9_abs_294c1 := by decide +kernel
  have hK := Jvm.Free.NT.Abs64.pays (l := l) (R := R) (p := p) (e := e) (below := below) (s := s) (sargs := args) (len := 3) (W := 8) (bytes := cJ9_abs_294c1) (maxL := 2) (by rw [hy]; exact hcode) (by rw [hy]; exact hstat) hfr hlo
  rw [hy] at hK
  obtain ⟨v, vm₁, B, hW₁, X', ⟨hB, hv⟩, st⟩ := callS X hx (bytes := cJ9_abs_294c1) (maxL := 2) (ret := some .double) hown hlink hstat hini hcode (by decide +kernel) hK (g := F0 m pc ls [.double b]) rfl hml.symm (argsL := [.double b]) (rest := []) (fun sig h => by
      have h2 : parseMethodDescriptor "(D)D" = some { parameters := [.double], returnType := some .double } := by decide +kernel
      rw [show yJ9_abs_294c1.desc = "(D)D" from rfl, h2] at h
      rw [← Option.some.inj h]; rfl) rfl (Nat.le_of_ble_eq_true rfl) (by rw [hb]; exact hdg) (fun vm₁ hW₁ => ⟨b, rfl, hn⟩)
  subst hB
  have hv9 := hv b ⟨rfl, hn⟩
  subst hv9
  obtain ⟨t, a1, b1⟩ := kk (T.setVm vm₁) hT X'
  exact ⟨t, st t a1, b1⟩
end ABS
