section BS
/-! what every contract needs: one list of words for all methods, the start, the cells that it may change -/
abbrev wc (y : MethodName) (cc : ByteArray) (n : Nat) (ret : Option FieldType) : List Cond := .code y cc n ret :: wsL_law0
theorem gA0 : wsL_law0.all goodWord = true := by decide +kernel
theorem gA : GoodIn wsL_law0 wsL_law0 := fun w h => ⟨h, good_of_word (List.all_eq_true.mp gA0 w h)⟩
theorem gA_c {y : MethodName} {cc : ByteArray} {n : Nat} {ret : Option FieldType} (h : Cond.code y cc n ret ∈ wsL_law0) : GoodIn wsL_law0 (wc y cc n ret) := fun w q => by
  rcases List.mem_cons.mp q with e | e
  · rw [e]; exact gA _ h
  · exact gA _ e
theorem gA_V {own C : String} {idx : Nat} {y : MethodName} {cc : ByteArray} {n : Nat} {ret : Option FieldType} (h1 : Cond.methodLink own idx y ∈ wsL_law0) (h2 : Cond.instanceMethod y ∈ wsL_law0) (h3 : Cond.selects C y y ∈ wsL_law0) (h4 : Cond.initialized C ∈ wsL_law0) (h5 : Cond.code y cc n ret ∈ wsL_law0) : GoodIn wsL_law0 (wsV own idx C y (wc y cc n ret)) := fun w q => by
  rcases List.mem_append.mp q with e | e
  · simp only [List.mem_cons, List.not_mem_nil, or_false] at e
    rcases e with rfl | rfl | rfl | rfl
    · exact gA _ h1
    · exact gA _ h2
    · exact gA _ h3
    · exact gA _ h4
  · exact gA_c h5 w e
theorem gA_S {own : String} {idx : Nat} {y : MethodName} {cc : ByteArray} {n : Nat} {ret : Option FieldType} (h1 : Cond.methodLink own idx y ∈ wsL_law0) (h2 : Cond.static y ∈ wsL_law0) (h4 : Cond.initialized y.cls ∈ wsL_law0) (h5 : Cond.code y cc n ret ∈ wsL_law0) : GoodIn wsL_law0 (va_wsS own idx y (wc y cc n ret)) := fun w q => by
  rcases List.mem_append.mp q with e | e
  · simp only [List.mem_cons, List.not_mem_nil, or_false] at e
    rcases e with rfl | rfl | rfl
    · exact gA _ h1
    · exact gA _ h2
    · exact gA _ h4
  · exact gA_c h5 w e
/-- links among the nest, which no list of words carries -/
def ew (U : State) : Prop := va_Nw (.methodLinkNest RX4 29 yX3_init RX4) U ∧ va_Nw (.methodLinkNest RX4 51 yX1_init RX4) U ∧ va_Nw (.methodLinkNest RX4 52 yX0_init RX4) U ∧ va_Nw (.methodLinkNest RX2 94 yX4_has RX4) U ∧ va_Nw (.methodLinkNest RX3 22 yX4_has RX4) U ∧ va_Nw (.methodLinkNest RX3 28 yX4_isWithin RX4) U
theorem ew.warm {s U : State} (hW : s.WarmedH U.vm) (h : ew s) : ew U := ⟨va_Nw.warmM hW h.1, va_Nw.warmM hW h.2.1, va_Nw.warmM hW h.2.2.1, va_Nw.warmM hW h.2.2.2.1, va_Nw.warmM hW h.2.2.2.2.1, va_Nw.warmM hW h.2.2.2.2.2⟩
theorem ew.same {u U : State} (hv : u.vm = U.vm) (h : ew u) : ew U := ⟨va_Nw.same rfl hv h.1, va_Nw.same rfl hv h.2.1, va_Nw.same rfl hv h.2.2.1, va_Nw.same rfl hv h.2.2.2.1, va_Nw.same rfl hv h.2.2.2.2.1, va_Nw.same rfl hv h.2.2.2.2.2⟩
/-- the arrays' classes -/
def pT (cH cB cJ cI : ClassId) : List (ClassId × FieldType) := [(cH, .object RX1), (cB, .object RX0), (cJ, .object RX2), (cI, .int)]
def pj (a : Nat → Nat) : Prop := ∀ i j, i < 58 → j < 58 → a i = a j → i = j
/-- a start: the 58 cells -/
def pS (D : va_G) (a : Nat → Nat) (cH cB cJ cI : ClassId) (sz : Nat) (g : m_St) (vt : Nat → Int32) (U : State) : Prop := U.heap.size = sz ∧ va_P D vwCl (pw a cH cB cJ cI g vt) U.heap ∧ va_K D vwCl (pT cH cB cJ cI) U ∧ ew U
def pA (a : Nat → Nat) (sz : Nat) : Nat → Prop := fun q => (∃ k, k < 58 ∧ a k = q) ∨ sz ≤ q
section
variable {D : va_G} {a : Nat → Nat} {cH cB cJ cI : ClassId} {sz : Nat} {g : m_St} {vt : Nat → Int32} {av As : List Value} {s : State} {H H1 : Heap} {locs : List Loc} {A : Nat → Prop}
theorem pw_at {k : Nat} {q : Nat × va_E} (h : (pw a cH cB cJ cI g vt)[k]? = some q) : k < 58 ∧ q.1 = a k := by
  by_cases z : k < 58
  · rw [pw_get z] at h
    cases h
    exact ⟨z, rfl⟩
  · simp [pw, z] at h
theorem pw_D (ha : pj a) (h : ∀ k, k < 58 → A (a k)) : va_D A (pw a cH cB cJ cI g vt) := by
  refine ⟨fun i j p q hi hj e => ?_, fun k q hk => ?_⟩
  · obtain ⟨i1, i2⟩ := pw_at hi
    obtain ⟨j1, j2⟩ := pw_at hj
    exact ha i j i1 j1 (i2.symm.trans (e.trans j2))
  · obtain ⟨k1, k2⟩ := pw_at hk
    rw [k2]; exact h k k1
theorem pA_in {k : Nat} (h : k < 58) : pA a sz (a k) := Or.inl ⟨k, h, rfl⟩
theorem pA_new {q : Nat} (h : sz ≤ q) : pA a sz q := Or.inr h
theorem pA_mono {sz' : Nat} (h : sz ≤ sz') {q : Nat} (hq : pA a sz' q) : pA a sz q := hq.elim Or.inl (fun z => Or.inr (Nat.le_trans h z))
theorem pS_bl : FrameBlind (va_Pc av (pS D a cH cB cJ cI sz g vt)) :=
  fun x U gg mk q => ⟨q.1, q.2.1, q.2.2.1, va_K.moved (u := U) (U := U.calling gg mk x) (Vm.Alike.refl U.vm) q.2.2.2.1, ew.same (u := U) (U := U.calling gg mk x) rfl q.2.2.2.2⟩
theorem pS_in (hP : va_P D vwCl (pw a cH cB cJ cI g vt) H) (hK : va_K D vwCl (pT cH cB cJ cI) s) (hE : ew s) : ∀ U : State, U.heap = H → s.WarmedH U.vm → va_Pc av (pS D a cH cB cJ cI H.size g vt) av.toArray U :=
  fun U hU hW => ⟨rfl, by rw [hU], by rw [hU]; exact hP, va_K.moved hW.alike hK, hE.warm hW⟩
theorem pS_v {b ci q0 : Nat} {q : vw_C} {fs As : List Value} (hc : vwCl[ci]? = some q) (he : (pw a cH cB cJ cI g vt)[q0]? = some (b, .inr (ci, fs))) (hP : va_P D vwCl (pw a cH cB cJ cI g vt) H) (hK : va_K D vwCl (pT cH cB cJ cI) s) (hE : ew s) : PreV s H q.1 b (va_Pc (.ref b :: As) (pS D a cH cB cJ cI H.size g vt)) As := ⟨pS_bl, va_recv hK hP hc he, pS_in hP hK hE⟩
theorem pS_s (hP : va_P D vwCl (pw a cH cB cJ cI g vt) H) (hK : va_K D vwCl (pT cH cB cJ cI) s) (hE : ew s) : PreS s H (va_Pc As (pS D a cH cB cJ cI H.size g vt)) As := ⟨pS_bl, pS_in hP hK hE⟩
/-- behind a call that wrote nothing old, the world is as it was -/
theorem ro_P {ws : va_W} (hP : va_P D vwCl ws H) (hk : ∀ q : Nat, q < H.size → ¬ H.size ≤ q → H1[q]? = H[q]?) : va_P D vwCl ws H1 := hP.kept (fun k q h => hk q.1 (hP k q h).lt (Nat.not_le.mpr (hP k q h).lt))
theorem ro_A {q : Nat} {B : Nat → Prop} (h1 : q < H.size) (h2 : H.size ≤ q) : B q := absurd h2 (Nat.not_le.mpr h1)
theorem ro_F (hS : va_S A s.heap H locs) (hA : ∀ q, s.heap.size ≤ q → A q) (q : Nat) (h : H.size ≤ q) : A q := hA q (Nat.le_trans hS.1 h)
/-- behind a call that wrote among the 58 cells -/
theorem rw_A (hS : va_S A s.heap H locs) (hA : ∀ q, s.heap.size ≤ q → A q) (hB : ∀ k, k < 58 → A (a k)) (q : Nat) (h : pA a H.size q) : A q := by
  rcases h with ⟨k, h1, h2⟩ | h
  · rw [← h2]; exact hB k h1
  · exact hA q (Nat.le_trans hS.1 h)
end
section
variable {p : Program} {l : Launch} {e : Env} {R : Room} {s : State} {m : MethodId} {args : Array Value} {below : List Frame} {meth : Method} {c : Code} {H : Heap} {locs : List Loc} {cells slots : Nat} {Q : State → Prop}
variable {cc : ByteArray} {pc : Nat} {ls : Array Slot} {rest : List Value} {D : va_G} {a : Nat → Nat} {cH cB cJ cI : ClassId} {g : m_St} {vt : Nat → Int32} {A : Nat → Prop} {H0 : Heap}
theorem p_aldH (hx : p.tables.exec = Jvm.exec) (hb : c.code = cc) (hK : va_K D vwCl (pT cH cB cJ cI) s) (hP : va_P D vwCl (pw a cH cB cJ cI g vt) H) {k : Int} (h0 : 0 ≤ k) (h1 : k < 5) (hdg : decode cc pc = .ok (.aaload, 1)) (kk : W p l e R s m args below meth c H locs cells slots Q (F0 m (pc + 1) ls (.ref (a (7 + k.toNat)) :: rest))) : W p l e R s m args below meth c H locs cells slots Q (F0 m pc ls (.int (iI k) :: .ref (a 1) :: rest)) := by
  have q := iI_in (n := 5) h0 (by omega) (by omega)
  refine va_aldq hx hb hK hP 1 0 pw_1 rfl q.1 hdg ?_
  rw [q.2]; exact kk
theorem p_aldB (hx : p.tables.exec = Jvm.exec) (hb : c.code = cc) (hK : va_K D vwCl (pT cH cB cJ cI) s) (hP : va_P D vwCl (pw a cH cB cJ cI g vt) H) {k : Int} (h0 : 0 ≤ k) (h1 : k < 16) (hdg : decode cc pc = .ok (.aaload, 1)) (kk : W p l e R s m args below meth c H locs cells slots Q (F0 m (pc + 1) ls (.ref (a (12 + k.toNat)) :: rest))) : W p l e R s m args below meth c H locs cells slots Q (F0 m pc ls (.int (iI k) :: .ref (a 2) :: rest)) := by
  have q := iI_in (n := 16) h0 (by omega) (by omega)
  refine va_aldq hx hb hK hP 2 1 pw_2 rfl q.1 hdg ?_
  rw [q.2]; exact kk
theorem p_aldJ (hx : p.tables.exec = Jvm.exec) (hb : c.code = cc) (hK : va_K D vwCl (pT cH cB cJ cI) s) (hP : va_P D vwCl (pw a cH cB cJ cI g vt) H) {k : Int} (h0 : 0 ≤ k) (h1 : k < 5) (hdg : decode cc pc = .ok (.aaload, 1)) (kk : W p l e R s m args below meth c H locs cells slots Q (F0 m (pc + 1) ls (.ref (a (28 + 6 * k.toNat)) :: rest))) : W p l e R s m args below meth c H locs cells slots Q (F0 m pc ls (.int (iI k) :: .ref (a 3) :: rest)) := by
  have q := iI_in (n := 5) h0 (by omega) (by omega)
  refine va_aldq hx hb hK hP 3 2 pw_3 rfl q.1 hdg ?_
  rw [q.2]; exact kk
/-- a judge's row: read, write -/
theorem p_rd (hx : p.tables.exec = Jvm.exec) (hb : c.code = cc) (hK : va_K D vwCl (pT cH cB cJ cI) s) (hP : va_P D vwCl (pw a cH cB cJ cI g vt) H) {j k : Int} {r : Nat} (j0 : 0 ≤ j) (j1 : j < 5) (hr : 1 ≤ r ∧ r < 6) (h0 : 0 ≤ k) (h1 : k < if r = 5 then 5 else 16) (hdg : decode cc pc = .ok (.iaload, 1)) (kk : W p l e R s m args below meth c H locs cells slots Q (F0 m (pc + 1) ls (.int (iI (g (3 + r) j k)) :: rest))) : W p l e R s m args below meth c H locs cells slots Q (F0 m pc ls (.int (iI k) :: .ref (a (28 + r + 6 * j.toNat)) :: rest)) := by
  have q := iI_in (n := if r = 5 then 5 else 16) (k := k) h0 (by split <;> (rename_i z; simp only [z, if_true, if_false] at h1; omega)) (by split <;> omega)
  refine va_iald hx hb hK hP (28 + r + 6 * j.toNat) 3 (pw_R j0 j1 hr) rfl q.1 hdg ?_
  rw [q.2]
  unfold rwF
  rw [Int.toNat_of_nonneg h0]
  exact kk
theorem p_wr (hx : p.tables.exec = Jvm.exec) (hb : c.code = cc) (hK : va_K D vwCl (pT cH cB cJ cI) s) (hP : va_P D vwCl (pw a cH cB cJ cI g vt) H) (hD : va_D A (pw a cH cB cJ cI g vt)) (hS : va_S A H0 H locs) {j k x : Int} {r : Nat} (j0 : 0 ≤ j) (j1 : j < 5) (hr : 1 ≤ r ∧ r < 6) (h0 : 0 ≤ k) (h1 : k < if r = 5 then 5 else 16) (hdg : decode cc pc = .ok (.iastore, 1)) (kk : ∀ (H1 : Heap) (locs1 : List Loc), va_P D vwCl (pw a cH cB cJ cI (m_up g (3 + r) j k x) vt) H1 → va_S A H0 H1 locs1 → W p l e R s m args below meth c H1 locs1 cells slots Q (F0 m (pc + 1) ls rest)) : W p l e R s m args below meth c H locs cells slots Q (F0 m pc ls (.int (iI x) :: .int (iI k) :: .ref (a (28 + r + 6 * j.toNat)) :: rest)) := by
  have q := iI_in (n := if r = 5 then 5 else 16) (k := k) h0 (by split <;> (rename_i z; simp only [z, if_true, if_false] at h1; omega)) (by split <;> omega)
  refine va_iast hx hb hK hP hD hS (28 + r + 6 * j.toNat) 3 (pw_R j0 j1 hr) rfl q.1 hdg (fun H1 locs1 hP1 _ hS1 => ?_)
  rw [q.2, pw_setR j0 j1 hr h0] at hP1
  exact kk H1 locs1 hP1 hS1
/-- the votes: read, write -/
theorem p_vrd (hx : p.tables.exec = Jvm.exec) (hb : c.code = cc) (hK : va_K D vwCl (pT cH cB cJ cI) s) (hP : va_P D vwCl (pw a cH cB cJ cI g vt) H) {k : Int} (h0 : 0 ≤ k) (h1 : k < 16) (hdg : decode cc pc = .ok (.iaload, 1)) (kk : W p l e R s m args below meth c H locs cells slots Q (F0 m (pc + 1) ls (.int (vt k.toNat) :: rest))) : W p l e R s m args below meth c H locs cells slots Q (F0 m pc ls (.int (iI k) :: .ref (a 6) :: rest)) := by
  have q := iI_in (n := 16) (k := k) h0 (by omega) (by omega)
  refine va_iald hx hb hK hP 6 3 pw_6 rfl q.1 hdg ?_
  rw [q.2]; exact kk
theorem p_vwr (hx : p.tables.exec = Jvm.exec) (hb : c.code = cc) (hK : va_K D vwCl (pT cH cB cJ cI) s) (hP : va_P D vwCl (pw a cH cB cJ cI g vt) H) (hD : va_D A (pw a cH cB cJ cI g vt)) (hS : va_S A H0 H locs) {k : Int} {x : Int32} (h0 : 0 ≤ k) (h1 : k < 16) (hdg : decode cc pc = .ok (.iastore, 1)) (kk : ∀ (H1 : Heap) (locs1 : List Loc), va_P D vwCl (pw a cH cB cJ cI g (upd vt k.toNat x)) H1 → va_S A H0 H1 locs1 → W p l e R s m args below meth c H1 locs1 cells slots Q (F0 m (pc + 1) ls rest)) : W p l e R s m args below meth c H locs cells slots Q (F0 m pc ls (.int x :: .int (iI k) :: .ref (a 6) :: rest)) := by
  have q := iI_in (n := 16) (k := k) h0 (by omega) (by omega)
  refine va_iast hx hb hK hP hD hS 6 3 pw_6 rfl q.1 hdg (fun H1 locs1 hP1 _ hS1 => ?_)
  rw [q.2, pw_setV] at hP1
  exact kk H1 locs1 hP1 hS1
end
theorem lv_cast {ls : Array Slot} {n : Nat} {l l' : List (Nat × Value)} (h : lv_has ls n l) (e : l = l') : lv_has ls n l' := e ▸ h
end BS
