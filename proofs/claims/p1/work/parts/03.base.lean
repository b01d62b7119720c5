section BASE
/-! What every contract of this claim needs beside its words: facts of the launch that no list of words can carry (ev), its start (pr: nothing old is written; pc: its own cells are), and short ways to a call. -/
abbrev eISE : String := "java/lang/IllegalStateException"
abbrev eIOB : String := "java/lang/IndexOutOfBoundsException"
abbrev eIAE : String := "java/lang/IllegalArgumentException"
abbrev eRE : List String := ["java/lang/RuntimeException", "java/lang/Exception"]
abbrev eOb : String := "java/lang/Object"
abbrev xHas : MethodName := ⟨"java/util/Iterator", "hasNext", "()Z"⟩
def ev_S : List (Nat × String) := [(100, "no such judge can be"),(105, "there are 5 judges, or entry is over"),(113, "no such judge"),(115, "no such author"),(129, "no such rules can be"),(141, "no such book"),(146, "entry is over, or the book is entered"),(164, "no such judge or book"),(180, "entry is over, or judges or entered books lack"),(185, "copies are 1 to 5000"),(195, "days are 1 to 60"),(200, "the day would be above 9999"),(209, "a longlist has 3 to 8 places"),(215, "not the time of reading, or a crate is not read"),(227, "no such judge, or book on a longlist to give points"),(229, "points are 0 to 12"),(237, "a conflict, or more than 12 points"),(239, "a shortlist has 2 to 5 places"),(241, "there is no longlist to choose from"),(252, "not an order of the shortlist"),(254, "not the time to vote"),(263, "there is no vote to end"),(271, "there is no winner to strip"),(276, "the year is not at its end, or is the last one"),(305, "what is 0 to 4"),(325, "what is 0 to 10"),(345, "what is 0 to 7"),(356, "what is 0 to 14"),(361, "a set of judges is 0 to 31"),(59, "there are 5 houses"),(70, "no such house"),(82, "no such book can be"),(88, "there were 16 books")]
def ev_w (U : State) : Prop := va_Nw (.methodLinkNest RX4 29 yX3_init RX4) U ∧ va_Nw (.methodLinkNest RX4 51 yX1_init RX4) U ∧ va_Nw (.methodLinkNest RX4 52 yX0_init RX4) U ∧ va_Nw (.fieldLinkNest RJx35411 28 RJx4a65c "size" "I" RJx4a65c) U ∧ va_Nw (.castable eISE eISE) U ∧ va_Nw (.castable eIOB eIOB) U ∧ va_Nw (.castable eIAE eIAE) U ∧ va_Nw (.castable "[I" eOb) U ∧ va_Nw (.castable RJx4a65c eOb) U
theorem ev_w.warm {s U : State} (hW : s.WarmedH U.vm) (h : ev_w s) : ev_w U :=
  ⟨va_Nw.warmM hW h.1, va_Nw.warmM hW h.2.1, va_Nw.warmM hW h.2.2.1, va_Nw.warmF hW h.2.2.2.1, va_Nw.warmC hW h.2.2.2.2.1, va_Nw.warmC hW h.2.2.2.2.2.1, va_Nw.warmC hW h.2.2.2.2.2.2.1, va_Nw.warmC hW h.2.2.2.2.2.2.2.1, va_Nw.warmC hW h.2.2.2.2.2.2.2.2⟩
theorem ev_w.same {u U : State} (hv : u.vm = U.vm) (h : ev_w u) : ev_w U :=
  ⟨va_Nw.same rfl hv h.1, va_Nw.same rfl hv h.2.1, va_Nw.same rfl hv h.2.2.1, va_Nw.same rfl hv h.2.2.2.1, va_Nw.same rfl hv h.2.2.2.2.1, va_Nw.same rfl hv h.2.2.2.2.2.1, va_Nw.same rfl hv h.2.2.2.2.2.2.1, va_Nw.same rfl hv h.2.2.2.2.2.2.2.1, va_Nw.same rfl hv h.2.2.2.2.2.2.2.2⟩
def ev_s (U : State) : Prop := ∀ q ∈ ev_S, ∃ a : Nat, vk_R RX4 q.1 q.2 a U
theorem ev_s.warm {s U : State} (hW : s.WarmedH U.vm) (h : ev_s s) : ev_s U := fun q hq => (h q hq).elim fun a ha => ⟨a, ha.warm hW⟩
theorem ev_s.same {u U : State} (hv : u.vm = U.vm) (h : ev_s u) : ev_s U := fun q hq => (h q hq).elim fun a ha => ⟨a, vk_R.same hv.symm ha⟩
def ev_i (U : State) : Prop := va_Fw RJx35411 xHas yJx35411_hasNext_aae02 U ∧ va_AO RX1 U ∧ va_AO RX0 U ∧ va_AO RX2 U ∧ va_AO eOb U ∧ va_AOA .int U ∧ va_Nc eISE eIAE U ∧ va_Nw (.declares (Bundle.initS "java/lang/RuntimeException")) U ∧ va_Nw (.declares (Bundle.initS "java/lang/Exception")) U ∧ va_Nw (.declares (Bundle.initS "java/lang/Throwable")) U
theorem nw_decl {y : MethodName} {u U : State} (hvm : u.vm.Alike U.vm) (h : va_Nw (.declares y) u) : va_Nw (.declares y) U := by
  have e := Cond.onTables_vm (A := #[]) (A' := #[]) (U := u) (U' := U) U.vm (.declares y) rfl
  have hU : U.setVm U.vm = U := rfl
  rw [hU] at e
  unfold va_Nw
  rw [← e, Cond.declares_setVm hvm]
  exact h
theorem ev_i.moved {u U : State} (hvm : u.vm.Alike U.vm) (h : ev_i u) : ev_i U :=
  ⟨va_Fw.moved ⟨by decide +kernel, by decide +kernel⟩ hvm h.1, va_AO.moved hvm h.2.1, va_AO.moved hvm h.2.2.1, va_AO.moved hvm h.2.2.2.1, va_AO.moved hvm h.2.2.2.2.1, va_AOA.moved hvm h.2.2.2.2.2.1, va_Nc.moved hvm h.2.2.2.2.2.2.1, nw_decl hvm h.2.2.2.2.2.2.2.1, nw_decl hvm h.2.2.2.2.2.2.2.2.1, nw_decl hvm h.2.2.2.2.2.2.2.2.2⟩
def ev_h (eT : Nat) (A : Nat → Prop) (U : State) (H : Heap) : Prop := vx_Zq Bundle.tN "UNASSIGNED_STACK" Bundle.steD A U H ∧ vx_Zq Bundle.tN "SUPPRESSED_SENTINEL" Bundle.listD A U H ∧ va_Z RJx4a65c "DEFAULTCAPACITY_EMPTY_ELEMENTDATA" "[Ljava/lang/Object;" (.ref eT) A U H ∧ va_T (.object eOb) eT 0 (fun _ => .null) A U H
theorem ev_h.moved {eT : Nat} {A : Nat → Prop} {u U : State} {H : Heap} (hvm : u.vm.Alike U.vm) (h : ev_h eT A u H) : ev_h eT A U H := ⟨h.1.moved hvm, h.2.1.moved hvm, h.2.2.1.moved hvm, h.2.2.2.moved hvm⟩
theorem ev_h.kept {eT : Nat} {A : Nat → Prop} {U : State} {H H1 : Heap} (h : ev_h eT A U H) (hq : ∀ a : Nat, a < H.size → ¬ A a → H1[a]? = H[a]?) : ev_h eT A U H1 := ⟨h.1.kept hq, h.2.1.kept hq, h.2.2.1.kept hq, h.2.2.2.kept hq⟩
theorem ev_h.narrow {eT : Nat} {A B : Nat → Prop} {U : State} {H : Heap} (h : ev_h eT A U H) (hAB : ∀ q, B q → A q) : ev_h eT B U H := ⟨h.1.narrow hAB, h.2.1.narrow hAB, h.2.2.1.narrow hAB, h.2.2.2.narrow hAB⟩
/-- the facts of the launch, seen from a method that may change what A names -/
def ev (eT : Nat) (A : Nat → Prop) (U : State) (H : Heap) : Prop := ev_w U ∧ ev_s U ∧ ev_i U ∧ ev_h eT A U H
theorem ev.same {eT : Nat} {A : Nat → Prop} {u U : State} {H : Heap} (hv : u.vm = U.vm) (h : ev eT A u H) : ev eT A U H :=
  have ha : u.vm.Alike U.vm := hv ▸ Vm.Alike.refl u.vm
  ⟨h.1.same hv, h.2.1.same hv, h.2.2.1.moved ha, h.2.2.2.moved ha⟩
theorem ev.into {eT : Nat} {A B : Nat → Prop} {s U : State} {H : Heap} {locs : List Loc} (h : ev eT A s s.heap) (hS : va_S A s.heap H locs) (hAB : ∀ q, B q → A q) (hW : s.WarmedH U.vm) : ev eT B U H :=
  ⟨h.1.warm hW, h.2.1.warm hW, h.2.2.1.moved hW.alike, ((h.2.2.2.kept hS.2.1).narrow hAB).moved hW.alike⟩
theorem ev.str {eT : Nat} {A : Nat → Prop} {U : State} {H : Heap} (h : ev eT A U H) (i : Nat) {q : Nat × String} (hq : ev_S[i]? = some q) : ∃ a : Nat, vk_R RX4 q.1 q.2 a U := h.2.1 q (List.mem_of_getElem? hq)
/-- a start from which nothing old is written -/
def pr (D : va_G) (eT sz : Nat) (ws : va_W) (tys : List (ClassId × FieldType)) (U : State) : Prop := U.heap.size = sz ∧ va_P D vwCl ws U.heap ∧ va_K D vwCl tys U ∧ ev eT (fun q => sz ≤ q) U U.heap
/-- a start with cells of its own -/
def pc (D : va_G) (eT sz : Nat) (ws : va_W) (tys : List (ClassId × FieldType)) (U : State) : Prop := U.heap.size = sz ∧ va_P D vwCl ws U.heap ∧ va_K D vwCl tys U ∧ va_D (fun _ => True) ws ∧ ev eT (va_A ws sz) U U.heap
theorem pr_bl {D : va_G} {eT sz : Nat} {ws : va_W} {tys : List (ClassId × FieldType)} {av : List Value} : FrameBlind (va_Pc av (pr D eT sz ws tys)) :=
  fun a U g mk q => ⟨q.1, q.2.1, q.2.2.1, va_K.moved (u := U) (U := U.calling g mk a) (Vm.Alike.refl U.vm) q.2.2.2.1, ev.same (u := U) (U := U.calling g mk a) rfl q.2.2.2.2⟩
theorem pc_bl {D : va_G} {eT sz : Nat} {ws : va_W} {tys : List (ClassId × FieldType)} {av : List Value} : FrameBlind (va_Pc av (pc D eT sz ws tys)) :=
  fun a U g mk q => ⟨q.1, q.2.1, q.2.2.1, va_K.moved (u := U) (U := U.calling g mk a) (Vm.Alike.refl U.vm) q.2.2.2.1, q.2.2.2.2.1, ev.same (u := U) (U := U.calling g mk a) rfl q.2.2.2.2.2⟩
section PI
variable {D : va_G} {eT : Nat} {A : Nat → Prop} {s : State} {H : Heap} {locs : List Loc} {wc : va_W} {tc : List (ClassId × FieldType)} {av : List Value}
theorem pr_in (hP : va_P D vwCl wc H) (hK : va_K D vwCl tc s) (hE : ev eT A s s.heap) (hS : va_S A s.heap H locs) (hA : ∀ q, s.heap.size ≤ q → A q) : ∀ U : State, U.heap = H → s.WarmedH U.vm → va_Pc av (pr D eT H.size wc tc) av.toArray U :=
  fun U hU hW => ⟨rfl, by rw [hU], by rw [hU]; exact hP, va_K.moved hW.alike hK, by rw [hU]; exact hE.into hS (fun q h => hA q (Nat.le_trans hS.1 h)) hW⟩
theorem pc_in (hP : va_P D vwCl wc H) (hD : va_D A wc) (hK : va_K D vwCl tc s) (hE : ev eT A s s.heap) (hS : va_S A s.heap H locs) (hF : ∀ q, va_A wc H.size q → A q) : ∀ U : State, U.heap = H → s.WarmedH U.vm → va_Pc av (pc D eT H.size wc tc) av.toArray U :=
  fun U hU hW => ⟨rfl, by rw [hU], by rw [hU]; exact hP, va_K.moved hW.alike hK, hD.weaken (fun _ _ _ _ => trivial), by rw [hU]; exact hE.into hS hF hW⟩
theorem pr_v {b ci q0 : Nat} {q : vw_C} {fs As : List Value} (hc : vwCl[ci]? = some q) (he : wc[q0]? = some (b, .inr (ci, fs))) (hP : va_P D vwCl wc H) (hK : va_K D vwCl tc s) (hE : ev eT A s s.heap) (hS : va_S A s.heap H locs) (hA : ∀ q, s.heap.size ≤ q → A q) : PreV s H q.1 b (va_Pc (.ref b :: As) (pr D eT H.size wc tc)) As := ⟨pr_bl, va_recv hK hP hc he, pr_in hP hK hE hS hA⟩
theorem pc_v {b ci q0 : Nat} {q : vw_C} {fs As : List Value} (hc : vwCl[ci]? = some q) (he : wc[q0]? = some (b, .inr (ci, fs))) (hP : va_P D vwCl wc H) (hD : va_D A wc) (hK : va_K D vwCl tc s) (hE : ev eT A s s.heap) (hS : va_S A s.heap H locs) (hF : ∀ q, va_A wc H.size q → A q) : PreV s H q.1 b (va_Pc (.ref b :: As) (pc D eT H.size wc tc)) As := ⟨pc_bl, va_recv hK hP hc he, pc_in hP hD hK hE hS hF⟩
theorem pr_s {As : List Value} (hP : va_P D vwCl wc H) (hK : va_K D vwCl tc s) (hE : ev eT A s s.heap) (hS : va_S A s.heap H locs) (hA : ∀ q, s.heap.size ≤ q → A q) : PreS s H (va_Pc As (pr D eT H.size wc tc)) As := ⟨pr_bl, pr_in hP hK hE hS hA⟩
theorem pc_s {As : List Value} (hP : va_P D vwCl wc H) (hD : va_D A wc) (hK : va_K D vwCl tc s) (hE : ev eT A s s.heap) (hS : va_S A s.heap H locs) (hF : ∀ q, va_A wc H.size q → A q) : PreS s H (va_Pc As (pc D eT H.size wc tc)) As := ⟨pc_bl, pc_in hP hD hK hE hS hF⟩
/-- behind a call that wrote nothing old, the world is as it was -/
theorem ro_P {H1 : Heap} (hP : va_P D vwCl wc H) (hk : ∀ q : Nat, q < H.size → ¬ H.size ≤ q → H1[q]? = H[q]?) : va_P D vwCl wc H1 := hP.kept (fun _ q h => hk q.1 (vx_lt hP h) (Nat.not_le.mpr (vx_lt hP h)))
theorem ro_A {q : Nat} {B : Nat → Prop} (h1 : q < H.size) (h2 : H.size ≤ q) : B q := absurd h2 (Nat.not_le.mpr h1)
theorem ro_F (hS : va_S A s.heap H locs) (hA : ∀ q, s.heap.size ≤ q → A q) (q : Nat) (h : H.size ≤ q) : A q := hA q (Nat.le_trans hS.1 h)
end PI
/-- what leaves a method that throws an E and has written nothing old -/
abbrev xr (E : String) (sz : Nat) : String → State → State → Prop := vx_X (fun _ : Unit => True) (fun E1 _ _ => E1 = E) (fun q => sz ≤ q)
theorem xr_in {E : String} {s t : State} {H : Heap} {locs : List Loc} (hS : va_S (fun q => s.heap.size ≤ q) s.heap H locs) (h1 : H.size ≤ t.heap.size) (h2 : ∀ q : Nat, q < H.size → t.heap[q]? = H[q]?) : xr E s.heap.size E s t :=
  ⟨(), trivial, rfl, Nat.le_trans hS.1 h1, fun q hq hn => (h2 q (Nat.lt_of_lt_of_le hq hS.1)).trans (hS.2.1 q hq hn)⟩
theorem hat_ISE {args : Array Value} {s : State} (h1 : ∀ w ∈ (vx_atS RX4 61 eISE eRE).filter goodWord, w.before args s = true) (hw : ev_w s) (hi : ev_i s) : ∀ w ∈ vx_atS RX4 61 eISE eRE, w.before args s = true :=
  vx_hat (B := [.castable eISE eISE, .declares (Bundle.initS "java/lang/RuntimeException"), .declares (Bundle.initS "java/lang/Exception"), .declares (Bundle.initS "java/lang/Throwable")]) h1 (by decide +kernel) (vx_c (va_Nw.use rfl hw.2.2.2.2.1) (vx_c (va_Nw.use rfl hi.2.2.2.2.2.2.2.1) (vx_c (va_Nw.use rfl hi.2.2.2.2.2.2.2.2.1) (vx_c (va_Nw.use rfl hi.2.2.2.2.2.2.2.2.2) vx_n))))
theorem hat_IOB {args : Array Value} {s : State} (h1 : ∀ w ∈ (vx_atS RX4 72 eIOB eRE).filter goodWord, w.before args s = true) (hw : ev_w s) (hi : ev_i s) : ∀ w ∈ vx_atS RX4 72 eIOB eRE, w.before args s = true :=
  vx_hat (B := [.castable eIOB eIOB, .declares (Bundle.initS "java/lang/RuntimeException"), .declares (Bundle.initS "java/lang/Exception"), .declares (Bundle.initS "java/lang/Throwable")]) h1 (by decide +kernel) (vx_c (va_Nw.use rfl hw.2.2.2.2.2.1) (vx_c (va_Nw.use rfl hi.2.2.2.2.2.2.2.1) (vx_c (va_Nw.use rfl hi.2.2.2.2.2.2.2.2.1) (vx_c (va_Nw.use rfl hi.2.2.2.2.2.2.2.2.2) vx_n))))
theorem hat_IAE {args : Array Value} {s : State} (h1 : ∀ w ∈ (vx_atS RX4 84 eIAE eRE).filter goodWord, w.before args s = true) (hw : ev_w s) (hi : ev_i s) : ∀ w ∈ vx_atS RX4 84 eIAE eRE, w.before args s = true :=
  vx_hat (B := [.castable eIAE eIAE, .declares (Bundle.initS "java/lang/RuntimeException"), .declares (Bundle.initS "java/lang/Exception"), .declares (Bundle.initS "java/lang/Throwable")]) h1 (by decide +kernel) (vx_c (va_Nw.use rfl hw.2.2.2.2.2.2.1) (vx_c (va_Nw.use rfl hi.2.2.2.2.2.2.2.1) (vx_c (va_Nw.use rfl hi.2.2.2.2.2.2.2.2.1) (vx_c (va_Nw.use rfl hi.2.2.2.2.2.2.2.2.2) vx_n))))
theorem good_ISE : ∀ w ∈ Cond.classLink RX4 57 eISE :: Cond.initialized eISE :: vx_atS RX4 61 eISE eRE, vx_ot w = true := by decide +kernel
theorem good_IOB : ∀ w ∈ Cond.classLink RX4 68 eIOB :: Cond.initialized eIOB :: vx_atS RX4 72 eIOB eRE, vx_ot w = true := by decide +kernel
theorem good_IAE : ∀ w ∈ Cond.classLink RX4 80 eIAE :: Cond.initialized eIAE :: vx_atS RX4 84 eIAE eRE, vx_ot w = true := by decide +kernel
theorem fit_ISE : Bundle.fit eISE = true := by decide +kernel
theorem fit_IOB : Bundle.fit eIOB = true := by decide +kernel
theorem fit_IAE : Bundle.fit eIAE = true := by decide +kernel
theorem fit_RE : ∀ n ∈ eRE, Bundle.fit n = true := by decide +kernel
end BASE
theorem i_nlt {a b : Int32} (h : ¬ a < b) : b ≤ a := Int32.not_lt.mp h
theorem i_le {a b : Int32} (h : b ≤ a) : ¬ a < b := Int32.not_lt.mpr h
theorem le_days {x : Int32} (h : x ≤ 60) : (0 + x) ≤ (9999 : Int32) := by
  rw [show (0 : Int32) + x = x by simp]
  exact Int32.le_trans h (by decide)
section ALD
variable {p : Program} {l : Launch} {e : Env} {R : Room} {s : State} {m : MethodId} {args : Array Value} {below : List Frame} {meth : Method} {c : Code} {H : Heap} {locs : List Loc} {cells slots : Nat} {Q : State → Prop}
variable {cc : ByteArray} {pc : Nat} {ls : Array Slot} {rest : List Value} {D : va_G} {cl : List vw_C} {a : Nat} {tys : List (ClassId × FieldType)} {ws : va_W}
/-- a row read out of an array of rows -/
theorem va_alda (hexec : p.tables.exec = Jvm.exec) (hb : c.code = cc) (hK : va_K D cl tys s) (hP : va_P D cl ws H) (q0 t0 : Nat) {cA : ClassId} {ty : FieldType} {n : Nat} {f : Nat → Option Nat} (ha : ws[q0]? = some (a, .inl (cA, n, .inr (.inr (.inr (.inr f)))))) (ht : tys[t0]? = some (cA, .array ty)) {i : Int32} (hin : vp_in i n) (hdg : decode cc pc = .ok (.aaload, 1))
    (kk : W p l e R s m args below meth c H locs cells slots Q (F0 m (pc + 1) ls (va_rf (f i.toNatClampNeg) :: rest))) : W p l e R s m args below meth c H locs cells slots Q (F0 m pc ls (.int i :: .ref a :: rest)) := by
  have hlt : i.toNatClampNeg < n := Nat.not_le.mp fun q => hin (Or.inr q)
  exact W.aald (v := va_rf (f i.toNatClampNeg)) (ty := .array ty) hexec hb (hP q0 _ ha) ((hK.2 t0 _ ht).1 n (fun j => va_rf (f j))) rfl (fun q => by cases q) (by show ¬ (i < 0 ∨ (arrV _ _ _).slots.size ≤ _); rw [arrV_size]; exact hin) (by show (arrV _ _ _).slots[_]? = _; rw [arrV_read _ _ hlt]) rfl rfl hdg kk
end ALD
/-- what many(w) answers on a fresh object -/
def mt (w : Int32) : Int32 := if w = 9 ∨ w = 10 then -1 else if w = 14 then 10 else 0
theorem mt_of {F : Nat → Int32} {w : Int32} (hF : ∀ j, j < 15 → F j = mt (nI j)) (h1 : 0 ≤ w) (h2 : w ≤ 14) : F w.toNatClampNeg = mt w := by
  obtain ⟨j, hj, rfl⟩ := nI_of2 (M := 14) (n := 14) rfl (i_le h1) h2
  rw [nI_clamp (by omega)]
  exact hF j (by omega)
theorem in15 {w : Int32} (h1 : 0 ≤ w) (h2 : w ≤ 14) : vp_in w 15 := by
  obtain ⟨j, hj, rfl⟩ := nI_of2 (M := 14) (n := 14) rfl (i_le h1) h2
  exact vp_in_nI (by omega) (by omega)
/-- a row of numbers may lie in a row of objects -/
theorem any_I {D : va_G} {s : State} {H : Heap} {ws : va_W} {tys : List (ClassId × FieldType)} {q0 t0 a n : Nat} {cA : ClassId} {f : Nat → Int32} (hca : va_Nw (.castable "[I" eOb) s) (hK : va_K D vwCl tys s) (hP : va_P D vwCl ws H) (ha : ws[q0]? = some (a, .inl (cA, n, .inl f))) (ht : tys[t0]? = some (cA, .int)) : va_Any eOb s H a := by
  obtain ⟨x, t1, f1, f2, f3⟩ := Cond.castable_spec (va_Nw.use (A := #[]) rfl hca)
  have hc := va_nm_int (hK.2 t0 _ ht).2
  obtain ⟨kC, hkC, -⟩ := Vm.findClass_spec hc
  cases Option.some.inj (f1.symm.trans hc)
  exact ⟨_, hP q0 _ ha, rfl, ⟨kC, hkC⟩, fun comp h => by cases Option.some.inj (f2.symm.trans h); exact f3⟩
theorem fill_s {fm : Nat → Int32} {x : Int32} {i : Nat} (hx3 : x = nI i) (hi : i < 16) (hm : ∀ k, k < i → fm k = -1) : ∀ k, k < i + 1 → upd fm (Int32.toNatClampNeg x) (-1) k = -1 := by
  intro k hk
  rw [hx3, nI_clamp (by omega)]
  by_cases h : k = i
  · subst h; exact pk_us
  · rw [pk_un h]; exact hm k (by omega)
theorem nm_II : "[" ++ (FieldType.array FieldType.int).toString = "[[I" := by decide +kernel
theorem row5 {r : Nat → Nat} {cI : ClassId} : va_pl ([] ++ (List.range 5).map r) (vr_up (fun _ => (.inr (0, []) : va_E)) ((List.range 5).map r) (.inl (cI, (16, .inl (fun _ => 0))))) = [(r 0, .inl (cI, 16, .inl (fun _ => 0))), (r 1, .inl (cI, 16, .inl (fun _ => 0))), (r 2, .inl (cI, 16, .inl (fun _ => 0))), (r 3, .inl (cI, 16, .inl (fun _ => 0))), (r 4, .inl (cI, 16, .inl (fun _ => 0)))] := by
  simp [va_pl, vr_up, List.range, List.range.loop]
theorem in_16 (c : ClassId) : Jvm.Free.Multi.innerC c 16 (defaultValue .int) = vp_cell c (16, .inl (fun _ => 0)) := by
  show ({ cls := c, slots := Array.replicate 16 (.int 0), vm := .none } : Cell) = _
  rw [arrV_new]
  rfl
