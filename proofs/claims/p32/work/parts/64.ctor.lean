section CTR
/-! the constructors: their worlds are written out, cell by cell -/
abbrev hC0 : va_E := .inr (1, [.int (iI 0), .int (iI 0)])
abbrev hC : va_E := .inr (1, [.int (iI 100), .int (iI 0)])
abbrev bC0 : va_E := .inr (0, [.int (iI 0), .int (iI 0), .int (iI 0), .int (iI 0), .int (iI 0), .int (iI 0), .int (iI 0), .int (iI 0), .int (iI 0), .int (iI 0), .int (iI 0)])
abbrev bC : va_E := .inr (0, [.int (iI 0), .int (iI 0), .int (iI 0), .int (iI 0), .int (iI 0), .int (iI 0), .int (iI 0), .int (iI (-1)), .int (iI 0), .int (iI 0), .int (iI 0)])
abbrev rC0 : va_E := .inr (3, [.int (iI 0), .int (iI 0), .int (iI 0), .int (iI 0)])
abbrev rC : va_E := .inr (3, [.int (iI 7), .int (iI 100), .int (iI 800), .int (iI 10)])
abbrev jC0 : va_E := .inr (2, [.int (iI 0), .int (iI 0), .int (iI 0), .int (iI 0), .int (iI 0), .null, .null, .int (iI 0), .int (iI 0), .int (iI 0), .int (iI 0), .null, .int (iI 0), .null, .null, .int (iI 0)])
abbrev jC (r1 r2 r3 r4 r5 : Nat) : va_E := .inr (2, [.int (iI 0), .int (iI 0), .int (iI 0), .int (iI 0), .int (iI 0), .ref r1, .ref r2, .int (iI 0), .int (iI 0), .int (iI 0), .int (iI 0), .ref r3, .int (iI 0), .ref r4, .ref r5, .int (iI 0)])
abbrev zC (c : ClassId) (n : Nat) (f : Nat → Int32) : va_E := .inl (c, n, .inl f)
abbrev oC (c : ClassId) (n : Nat) (f : Nat → Option Nat) : va_E := .inl (c, n, .inr (.inr (.inr (.inr f))))
def ec (U : State) : Prop := ew U ∧ va_AO RX1 U ∧ va_AO RX0 U ∧ va_AO RX2 U
theorem ec.warm {s U : State} (hW : s.WarmedH U.vm) (h : ec s) : ec U := ⟨h.1.warm hW, va_AO.moved hW.alike h.2.1, va_AO.moved hW.alike h.2.2.1, va_AO.moved hW.alike h.2.2.2⟩
theorem ec.same {u U : State} (hv : u.vm = U.vm) (h : ec u) : ec U :=
  have ha : u.vm.Alike U.vm := hv ▸ Vm.Alike.refl u.vm
  ⟨h.1.same hv, va_AO.moved ha h.2.1, va_AO.moved ha h.2.2.1, va_AO.moved ha h.2.2.2⟩
def cS (D : va_G) (sz : Nat) (ws : va_W) (tys : List (ClassId × FieldType)) (U : State) : Prop := U.heap.size = sz ∧ va_P D vwCl ws U.heap ∧ va_K D vwCl tys U ∧ va_D (fun _ => True) ws ∧ ec U
theorem cS_s {D : va_G} {s : State} {H : Heap} {A : Nat → Prop} {wc : va_W} {tc : List (ClassId × FieldType)} {As : List Value} (hP : va_P D vwCl wc H) (hD : va_D A wc) (hK : va_K D vwCl tc s) (hE : ec s) : PreS s H (va_Pc As (cS D H.size wc tc)) As :=
  ⟨fun x U gg mk q => ⟨q.1, q.2.1, q.2.2.1, va_K.moved (u := U) (U := U.calling gg mk x) (Vm.Alike.refl U.vm) q.2.2.2.1, q.2.2.2.2.1, ec.same (u := U) (U := U.calling gg mk x) rfl q.2.2.2.2.2⟩,
   fun U hU hW => ⟨rfl, by rw [hU], by rw [hU]; exact hP, va_K.moved hW.alike hK, hD.weaken (fun _ _ _ _ => trivial), hE.warm hW⟩⟩
theorem ci_eq {D : va_G} {cl : List vw_C} {tys : List (ClassId × FieldType)} {U : State} {c c' : ClassId} (h : va_K D cl tys U) (i j : Nat) (hi : tys[i]? = some (c, .int)) (hj : tys[j]? = some (c', .int)) : c = c' := by
  have a : U.vm.findClass _ = some c := (h.2 i _ hi).2
  have b : U.vm.findClass _ = some c' := (h.2 j _ hj).2
  exact Option.some.inj (a.symm.trans b)
theorem arrV_eq {c : ClassId} {n : Nat} {f f' : Nat → Value} (h : ∀ j, j < n → f j = f' j) : arrV c n f = arrV c n f' := by
  unfold arrV
  congr 1
  congr 1
  funext j
  exact h j.val j.isLt
theorem va_row {D : va_G} {cl : List vw_C} {ws : va_W} {H : Heap} {k a n : Nat} {c : ClassId} {f f' : Nat → Int32} (hP : va_P D cl ws H) (he : ws[k]? = some (a, .inl (c, n, .inl f))) (hf : ∀ j, j < n → f j = f' j) : va_P D cl (ws.set k (a, .inl (c, n, .inl f'))) H := by
  intro i q hq
  by_cases e : i = k
  · subst e
    rw [List.getElem?_set_self (List.getElem?_eq_some_iff.mp he).1] at hq
    cases hq
    have := hP i _ he
    show H[a]? = some (vp_cell c (n, .inl f'))
    rw [show vp_cell c (n, .inl f') = vp_cell c (n, .inl f) from (arrV_eq (fun j hj => congrArg Value.int (hf j hj).symm))]
    exact this
  · rw [List.getElem?_set_ne (Ne.symm e)] at hq
    exact hP i q hq
theorem va_rowq {D : va_G} {cl : List vw_C} {ws : va_W} {H : Heap} {k a n : Nat} {c : ClassId} {f f' : Nat → Option Nat} (hP : va_P D cl ws H) (he : ws[k]? = some (a, .inl (c, n, .inr (.inr (.inr (.inr f)))))) (hf : ∀ j, j < n → f j = f' j) : va_P D cl (ws.set k (a, .inl (c, n, .inr (.inr (.inr (.inr f')))))) H := by
  intro i q hq
  by_cases e : i = k
  · subst e
    rw [List.getElem?_set_self (List.getElem?_eq_some_iff.mp he).1] at hq
    cases hq
    have := hP i _ he
    show H[a]? = some (vp_cell c (n, .inr (.inr (.inr (.inr f')))))
    rw [show vp_cell c (n, .inr (.inr (.inr (.inr f')))) = vp_cell c (n, .inr (.inr (.inr (.inr f)))) from (arrV_eq (fun j hj => congrArg va_rf (hf j hj).symm))]
    exact this
  · rw [List.getElem?_set_ne (Ne.symm e)] at hq
    exact hP i q hq
def lk (l : List Nat) : Nat → Nat := fun k => l.getD k 0
theorem lk_at {W : va_W} {l : List Nat} (hm : W.map Prod.fst = l) {i : Nat} (hi : i < l.length) : ∃ e, W[i]? = some (lk l i, e) := by
  have hi' : i < W.length := by rw [← hm] at hi; simpa using hi
  refine ⟨W[i].2, ?_⟩
  rw [List.getElem?_eq_getElem hi']
  congr 1
  refine Prod.ext ?_ rfl
  subst hm
  unfold lk
  simp [hi']
theorem lk_inj {W : va_W} {l : List Nat} {A : Nat → Prop} (hm : W.map Prod.fst = l) (hn : l.length = 58) (hD : va_D A W) : pj (lk l) := by
  intro i j hi hj e
  obtain ⟨x, hx⟩ := lk_at hm (i := i) (by omega)
  obtain ⟨y, hy⟩ := lk_at hm (i := j) (by omega)
  exact hD.1 i j _ _ hx hy e
theorem vA_one {h0 sz q : Nat} {c : va_E} (h : va_A [(h0, c)] sz q) : q = h0 ∨ sz ≤ q := by
  rcases h with ⟨k, e, h⟩ | h
  · cases k with
    | zero => cases h; exact Or.inl rfl
    | succ k => simp at h
  · exact Or.inr h
end CTR
set_option maxHeartbeats 20000000 in
set_option maxRecDepth 100000 in
theorem n_Book (l : Launch) (D : va_G) (h0 sz : Nat) : Met l yX0_init (wc yX0_init cX0_init 1 none) ({ frames := 1, cells := 0, slots := 0, locals := 12 }) (va_Pc [.ref h0] (cS D sz [(h0, bC0)] [])) (va_Qv (fun (_ : Unit) => True) (fun _ t => va_P D vwCl [(h0, bC)] t.heap ∧ va_D (va_A [(h0, bC0)] sz) [(h0, bC)]) (va_A [(h0, bC0)] sz)) 0 0 (va_A [(h0, bC0)] sz) := by
  refine Met.ofW (cc := cX0_init) (maxL := 1) (ret := none) (by decide +kernel) rfl ?_
  intro p e s m args below meth c s₁ B9 hml hv
  obtain ⟨rfl, hsz, hP, hK, hD0, hE⟩ := hv
  have hx := B9.exec
  have hb := B9.bytes
  have hr := B9.returns
  have hts := atoms_spec (ws := (wc yX0_init cX0_init 1 none)) B9.pre
  have hw : ∀ w ∈ wsL_law0, w.before [.ref h0].toArray s = true := fun w h => hts w (List.mem_cons_of_mem _ h)
  have hown : s.vm.findClass RX0 = some m.cls := findClass_of_methodNamed B9.named
  have hlocks := B9.notSynchronized
  have hin : meth.name = "<init>" := (name_of_methodNamed B9.named B9.method).1
  subst hsz
  have hD := hD0.self (sz := s.heap.size)
  generalize hAe : va_A [(h0, bC0)] s.heap.size = A at hD ⊢
  have hA : ∀ q : Nat, s.heap.size ≤ q → A q := fun q h => by rw [← hAe]; exact Or.inr h
  have hS : va_S A s.heap s.heap [] := va_S.rf
  have hl := lv_entry ([.ref h0]) (n := 1) (Nat.le_of_ble_eq_true rfl)
  rw [lg_entry_eq]
  generalize (lg_sl ([.ref h0]) ++ List.replicate (1 - (lg_sl ([.ref h0])).length) Slot.unset).toArray = ls at hl ⊢
  have hl : lv_has ls 1 [(0, .ref h0)] := hl
  suffices h9 : ∀ (H : Heap) (locs : List Loc), va_P D vwCl [(h0, bC0)] H → va_S A s.heap H locs → W p l e (headSpec (wc yX0_init cX0_init 1 none) ({ frames := 1, cells := 0, slots := 0, locals := 12 })).room s m [.ref h0].toArray below meth c H locs 0 0 (MQ below (va_Qv (fun (_ : Unit) => True) (fun _ t => va_P D vwCl [(h0, bC)] t.heap ∧ va_D A [(h0, bC)]) A) [.ref h0].toArray s 0 0 A) (F0 m 0 ls []) from h9 s.heap [] hP hS
  clear hP hS
  intro H locs hP hS
  have hD : va_D A [(h0, bC0)] := hD
  refine lv_aload_n hx hb dX0_init_0 rfl (lv_at hl 0 rfl) ?_
  refine W.objInit hx hb hown (hw _ kw_48) (hw _ kw_12) (hw _ kw_13) rfl (by rw [hml]; exact hl.1) rfl dX0_init_1 (Nat.le_of_ble_eq_true rfl) (Nat.le_of_ble_eq_true rfl) ?_
  refine W.eq (g2 := F0 m 4 ls []) rfl ?_
  refine lv_aload_n hx hb dX0_init_4 rfl (lv_at hl 0 rfl) ?_
  refine lv_iconst (v := iI (-1)) hx hb dX0_init_5 (by decide) ?_
  refine va_put (D := D) (ci := 0) (v := .int (iI (-1))) (C := RX0) (T := TX0) (N := 11) (ty := .int) hx hb hw hin_wsX00 tyX0 tyX0_ok nmX0 hown hK hP hD hS 0 rfl rfl 7 (by decide) (hw _ kw_49) (fun _ h9 => h9) rfl (tyX0_ok 7 (by decide)) rfl rfl (show 7 < 11 from by decide) dX0_init_6 (fun H locs hP hD hS => ?_)
  have hP : va_P D vwCl [(h0, bC)] H := hP
  have hD : va_D A [(h0, bC)] := hD
  exact W.vret hx hb hr (fun t ht hW9 => ⟨⟨(), rfl, trivial, by rw [ht]; exact hP, hD⟩, hS.F ht⟩) hS.2.2 dX0_init_9
set_option maxHeartbeats 20000000 in
set_option maxRecDepth 100000 in
theorem n_House (l : Launch) (D : va_G) (h0 sz : Nat) : Met l yX1_init (wc yX1_init cX1_init 1 none) ({ frames := 1, cells := 0, slots := 0, locals := 12 }) (va_Pc [.ref h0] (cS D sz [(h0, hC0)] [])) (va_Qv (fun (_ : Unit) => True) (fun _ t => va_P D vwCl [(h0, hC)] t.heap ∧ va_D (va_A [(h0, hC0)] sz) [(h0, hC)]) (va_A [(h0, hC0)] sz)) 0 0 (va_A [(h0, hC0)] sz) := by
  refine Met.ofW (cc := cX1_init) (maxL := 1) (ret := none) (by decide +kernel) rfl ?_
  intro p e s m args below meth c s₁ B9 hml hv
  obtain ⟨rfl, hsz, hP, hK, hD0, hE⟩ := hv
  have hx := B9.exec
  have hb := B9.bytes
  have hr := B9.returns
  have hts := atoms_spec (ws := (wc yX1_init cX1_init 1 none)) B9.pre
  have hw : ∀ w ∈ wsL_law0, w.before [.ref h0].toArray s = true := fun w h => hts w (List.mem_cons_of_mem _ h)
  have hown : s.vm.findClass RX1 = some m.cls := findClass_of_methodNamed B9.named
  have hlocks := B9.notSynchronized
  have hin : meth.name = "<init>" := (name_of_methodNamed B9.named B9.method).1
  subst hsz
  have hD := hD0.self (sz := s.heap.size)
  generalize hAe : va_A [(h0, hC0)] s.heap.size = A at hD ⊢
  have hA : ∀ q : Nat, s.heap.size ≤ q → A q := fun q h => by rw [← hAe]; exact Or.inr h
  have hS : va_S A s.heap s.heap [] := va_S.rf
  have hl := lv_entry ([.ref h0]) (n := 1) (Nat.le_of_ble_eq_true rfl)
  rw [lg_entry_eq]
  generalize (lg_sl ([.ref h0]) ++ List.replicate (1 - (lg_sl ([.ref h0])).length) Slot.unset).toArray = ls at hl ⊢
  have hl : lv_has ls 1 [(0, .ref h0)] := hl
  suffices h9 : ∀ (H : Heap) (locs : List Loc), va_P D vwCl [(h0, hC0)] H → va_S A s.heap H locs → W p l e (headSpec (wc yX1_init cX1_init 1 none) ({ frames := 1, cells := 0, slots := 0, locals := 12 })).room s m [.ref h0].toArray below meth c H locs 0 0 (MQ below (va_Qv (fun (_ : Unit) => True) (fun _ t => va_P D vwCl [(h0, hC)] t.heap ∧ va_D A [(h0, hC)]) A) [.ref h0].toArray s 0 0 A) (F0 m 0 ls []) from h9 s.heap [] hP hS
  clear hP hS
  intro H locs hP hS
  have hD : va_D A [(h0, hC0)] := hD
  refine lv_aload_n hx hb dX1_init_0 rfl (lv_at hl 0 rfl) ?_
  refine W.objInit hx hb hown (hw _ kw_44) (hw _ kw_12) (hw _ kw_13) rfl (by rw [hml]; exact hl.1) rfl dX1_init_1 (Nat.le_of_ble_eq_true rfl) (Nat.le_of_ble_eq_true rfl) ?_
  refine W.eq (g2 := F0 m 4 ls []) rfl ?_
  refine lv_aload_n hx hb dX1_init_4 rfl (lv_at hl 0 rfl) ?_
  refine lv_bipush (v := iI 100) hx hb dX1_init_5 (by decide) ?_
  refine va_put (D := D) (ci := 1) (v := .int (iI 100)) (C := RX1) (T := TX1) (N := 2) (ty := .int) hx hb hw hin_wsX10 tyX1 tyX1_ok nmX1 hown hK hP hD hS 0 rfl rfl 0 (by decide) (hw _ kw_45) (fun _ h9 => h9) rfl (tyX1_ok 0 (by decide)) rfl rfl (show 0 < 2 from by decide) dX1_init_7 (fun H locs hP hD hS => ?_)
  have hP : va_P D vwCl [(h0, hC)] H := hP
  have hD : va_D A [(h0, hC)] := hD
  exact W.vret hx hb hr (fun t ht hW9 => ⟨⟨(), rfl, trivial, by rw [ht]; exact hP, hD⟩, hS.F ht⟩) hS.2.2 dX1_init_10
set_option maxHeartbeats 20000000 in
set_option maxRecDepth 100000 in
theorem n_Rules (l : Launch) (D : va_G) (h0 sz : Nat) : Met l yX3_init (wc yX3_init cX3_init 1 none) ({ frames := 1, cells := 0, slots := 0, locals := 12 }) (va_Pc [.ref h0] (cS D sz [(h0, rC0)] [])) (va_Qv (fun (_ : Unit) => True) (fun _ t => va_P D vwCl [(h0, rC)] t.heap ∧ va_D (va_A [(h0, rC0)] sz) [(h0, rC)]) (va_A [(h0, rC0)] sz)) 0 0 (va_A [(h0, rC0)] sz) := by
  refine Met.ofW (cc := cX3_init) (maxL := 1) (ret := none) (by decide +kernel) rfl ?_
  intro p e s m args below meth c s₁ B9 hml hv
  obtain ⟨rfl, hsz, hP, hK, hD0, hE⟩ := hv
  have hx := B9.exec
  have hb := B9.bytes
  have hr := B9.returns
  have hts := atoms_spec (ws := (wc yX3_init cX3_init 1 none)) B9.pre
  have hw : ∀ w ∈ wsL_law0, w.before [.ref h0].toArray s = true := fun w h => hts w (List.mem_cons_of_mem _ h)
  have hown : s.vm.findClass RX3 = some m.cls := findClass_of_methodNamed B9.named
  have hlocks := B9.notSynchronized
  have hin : meth.name = "<init>" := (name_of_methodNamed B9.named B9.method).1
  subst hsz
  have hD := hD0.self (sz := s.heap.size)
  generalize hAe : va_A [(h0, rC0)] s.heap.size = A at hD ⊢
  have hA : ∀ q : Nat, s.heap.size ≤ q → A q := fun q h => by rw [← hAe]; exact Or.inr h
  have hS : va_S A s.heap s.heap [] := va_S.rf
  have hl := lv_entry ([.ref h0]) (n := 1) (Nat.le_of_ble_eq_true rfl)
  rw [lg_entry_eq]
  generalize (lg_sl ([.ref h0]) ++ List.replicate (1 - (lg_sl ([.ref h0])).length) Slot.unset).toArray = ls at hl ⊢
  have hl : lv_has ls 1 [(0, .ref h0)] := hl
  suffices h9 : ∀ (H : Heap) (locs : List Loc), va_P D vwCl [(h0, rC0)] H → va_S A s.heap H locs → W p l e (headSpec (wc yX3_init cX3_init 1 none) ({ frames := 1, cells := 0, slots := 0, locals := 12 })).room s m [.ref h0].toArray below meth c H locs 0 0 (MQ below (va_Qv (fun (_ : Unit) => True) (fun _ t => va_P D vwCl [(h0, rC)] t.heap ∧ va_D A [(h0, rC)]) A) [.ref h0].toArray s 0 0 A) (F0 m 0 ls []) from h9 s.heap [] hP hS
  clear hP hS
  intro H locs hP hS
  have hD : va_D A [(h0, rC0)] := hD
  refine lv_aload_n hx hb dX3_init_0 rfl (lv_at hl 0 rfl) ?_
  refine W.objInit hx hb hown (hw _ kw_37) (hw _ kw_12) (hw _ kw_13) rfl (by rw [hml]; exact hl.1) rfl dX3_init_1 (Nat.le_of_ble_eq_true rfl) (Nat.le_of_ble_eq_true rfl) ?_
  refine W.eq (g2 := F0 m 4 ls []) rfl ?_
  refine lv_aload_n hx hb dX3_init_4 rfl (lv_at hl 0 rfl) ?_
  refine lv_bipush (v := iI 7) hx hb dX3_init_5 (by decide) ?_
  refine va_put (D := D) (ci := 3) (v := .int (iI 7)) (C := RX3) (T := TX3) (N := 4) (ty := .int) hx hb hw hin_wsX30 tyX3 tyX3_ok nmX3 hown hK hP hD hS 0 rfl rfl 0 (by decide) (hw _ kw_38) (fun _ h9 => h9) rfl (tyX3_ok 0 (by decide)) rfl rfl (show 0 < 4 from by decide) dX3_init_7 (fun H locs hP hD hS => ?_)
  have hP : va_P D vwCl [(h0, .inr (3, [.int (iI 7), .int (iI 0), .int (iI 0), .int (iI 0)]))] H := hP
  have hD : va_D A [(h0, .inr (3, [.int (iI 7), .int (iI 0), .int (iI 0), .int (iI 0)]))] := hD
  refine lv_aload_n hx hb dX3_init_10 rfl (lv_at hl 0 rfl) ?_
  refine lv_bipush (v := iI 100) hx hb dX3_init_11 (by decide) ?_
  refine va_put (D := D) (ci := 3) (v := .int (iI 100)) (C := RX3) (T := TX3) (N := 4) (ty := .int) hx hb hw hin_wsX30 tyX3 tyX3_ok nmX3 hown hK hP hD hS 0 rfl rfl 1 (by decide) (hw _ kw_39) (fun _ h9 => h9) rfl (tyX3_ok 1 (by decide)) rfl rfl (show 1 < 4 from by decide) dX3_init_13 (fun H locs hP hD hS => ?_)
  have hP : va_P D vwCl [(h0, .inr (3, [.int (iI 7), .int (iI 100), .int (iI 0), .int (iI 0)]))] H := hP
  have hD : va_D A [(h0, .inr (3, [.int (iI 7), .int (iI 100), .int (iI 0), .int (iI 0)]))] := hD
  refine lv_aload_n hx hb dX3_init_16 rfl (lv_at hl 0 rfl) ?_
  refine lv_sipush (v := iI 800) hx hb dX3_init_17 (by decide) ?_
  refine va_put (D := D) (ci := 3) (v := .int (iI 800)) (C := RX3) (T := TX3) (N := 4) (ty := .int) hx hb hw hin_wsX30 tyX3 tyX3_ok nmX3 hown hK hP hD hS 0 rfl rfl 2 (by decide) (hw _ kw_40) (fun _ h9 => h9) rfl (tyX3_ok 2 (by decide)) rfl rfl (show 2 < 4 from by decide) dX3_init_20 (fun H locs hP hD hS => ?_)
  have hP : va_P D vwCl [(h0, .inr (3, [.int (iI 7), .int (iI 100), .int (iI 800), .int (iI 0)]))] H := hP
  have hD : va_D A [(h0, .inr (3, [.int (iI 7), .int (iI 100), .int (iI 800), .int (iI 0)]))] := hD
  refine lv_aload_n hx hb dX3_init_23 rfl (lv_at hl 0 rfl) ?_
  refine lv_bipush (v := iI 10) hx hb dX3_init_24 (by decide) ?_
  refine va_put (D := D) (ci := 3) (v := .int (iI 10)) (C := RX3) (T := TX3) (N := 4) (ty := .int) hx hb hw hin_wsX30 tyX3 tyX3_ok nmX3 hown hK hP hD hS 0 rfl rfl 3 (by decide) (hw _ kw_41) (fun _ h9 => h9) rfl (tyX3_ok 3 (by decide)) rfl rfl (show 3 < 4 from by decide) dX3_init_26 (fun H locs hP hD hS => ?_)
  have hP : va_P D vwCl [(h0, rC)] H := hP
  have hD : va_D A [(h0, rC)] := hD
  exact W.vret hx hb hr (fun t ht hW9 => ⟨⟨(), rfl, trivial, by rw [ht]; exact hP, hD⟩, hS.F ht⟩) hS.2.2 dX3_init_29
set_option maxHeartbeats 20000000 in
set_option maxRecDepth 100000 in
theorem n_Judge (l : Launch) (D : va_G) (h0 sz : Nat) : Met l yX2_init (wc yX2_init cX2_init 2 none) ({ frames := 1, cells := 5, slots := 69, locals := 12 }) (va_Pc [.ref h0] (cS D sz [(h0, jC0)] [])) (va_Qv (fun (_ : Unit) => True) (fun _ t => ∃ (r1 r2 r3 r4 r5 : Nat) (ck : ClassId), va_P D vwCl [(h0, jC r1 r2 r3 r4 r5), (r1, zC ck 16 (fun _ => 0)), (r2, zC ck 16 (fun _ => 0)), (r3, zC ck 16 (fun _ => iI (-1))), (r4, zC ck 16 (fun _ => 0)), (r5, zC ck 5 (fun _ => 0))] t.heap ∧ va_K D vwCl [(ck, .int)] t ∧ va_D (va_A [(h0, jC0)] sz) [(h0, jC r1 r2 r3 r4 r5), (r1, zC ck 16 (fun _ => 0)), (r2, zC ck 16 (fun _ => 0)), (r3, zC ck 16 (fun _ => iI (-1))), (r4, zC ck 16 (fun _ => 0)), (r5, zC ck 5 (fun _ => 0))]) (va_A [(h0, jC0)] sz)) 5 69 (va_A [(h0, jC0)] sz) := by
  refine Met.ofW (cc := cX2_init) (maxL := 2) (ret := none) (by decide +kernel) rfl ?_
  intro p e s m args below meth c s₁ B9 hml hv
  obtain ⟨rfl, hsz, hP, hK, hD0, hE⟩ := hv
  have hx := B9.exec
  have hb := B9.bytes
  have hr := B9.returns
  have hts := atoms_spec (ws := (wc yX2_init cX2_init 2 none)) B9.pre
  have hw : ∀ w ∈ wsL_law0, w.before [.ref h0].toArray s = true := fun w h => hts w (List.mem_cons_of_mem _ h)
  have hown : s.vm.findClass RX2 = some m.cls := findClass_of_methodNamed B9.named
  have hlocks := B9.notSynchronized
  have hin : meth.name = "<init>" := (name_of_methodNamed B9.named B9.method).1
  subst hsz
  have hD := hD0.self (sz := s.heap.size)
  generalize hAe : va_A [(h0, jC0)] s.heap.size = A at hD ⊢
  have hA : ∀ q : Nat, s.heap.size ≤ q → A q := fun q h => by rw [← hAe]; exact Or.inr h
  have hS : va_S A s.heap s.heap [] := va_S.rf
  have hl := lv_entry ([.ref h0]) (n := 2) (Nat.le_of_ble_eq_true rfl)
  rw [lg_entry_eq]
  generalize (lg_sl ([.ref h0]) ++ List.replicate (2 - (lg_sl ([.ref h0])).length) Slot.unset).toArray = ls at hl ⊢
  have hl : lv_has ls 2 [(0, .ref h0)] := hl
  suffices h9 : ∀ (H : Heap) (locs : List Loc), va_P D vwCl [(h0, jC0)] H → va_S A s.heap H locs → W p l e (headSpec (wc yX2_init cX2_init 2 none) ({ frames := 1, cells := 5, slots := 69, locals := 12 })).room s m [.ref h0].toArray below meth c H locs 0 0 (MQ below (va_Qv (fun (_ : Unit) => True) (fun _ t => ∃ (r1 r2 r3 r4 r5 : Nat) (ck : ClassId), va_P D vwCl [(h0, jC r1 r2 r3 r4 r5), (r1, zC ck 16 (fun _ => 0)), (r2, zC ck 16 (fun _ => 0)), (r3, zC ck 16 (fun _ => iI (-1))), (r4, zC ck 16 (fun _ => 0)), (r5, zC ck 5 (fun _ => 0))] t.heap ∧ va_K D vwCl [(ck, .int)] t ∧ va_D A [(h0, jC r1 r2 r3 r4 r5), (r1, zC ck 16 (fun _ => 0)), (r2, zC ck 16 (fun _ => 0)), (r3, zC ck 16 (fun _ => iI (-1))), (r4, zC ck 16 (fun _ => 0)), (r5, zC ck 5 (fun _ => 0))]) A) [.ref h0].toArray s 5 69 A) (F0 m 0 ls []) from h9 s.heap [] hP hS
  clear hP hS
  intro H locs hP hS
  have hD : va_D A [(h0, jC0)] := hD
  refine lv_aload_n hx hb dX2_init_0 rfl (lv_at hl 0 rfl) ?_
  refine W.objInit hx hb hown (hw _ kw_53) (hw _ kw_12) (hw _ kw_13) rfl (by rw [hml]; exact hl.1) rfl dX2_init_1 (Nat.le_of_ble_eq_true rfl) (Nat.le_of_ble_eq_true rfl) ?_
  refine W.eq (g2 := F0 m 4 ls []) rfl ?_
  refine lv_aload_n hx hb dX2_init_4 rfl (lv_at hl 0 rfl) ?_
  refine lv_bipush (v := iI 16) hx hb dX2_init_5 (by decide) ?_
  refine va_newa (atype := .int) (ty := .int) (N' := 16) (a0 := (16, (.inl (fun _ => 0)))) hx hb (hw _ kw_3) rfl hK hP hD hS hA (fun _ => rfl) (by decide) (by decide) (Nat.le_of_ble_eq_true rfl) (Nat.le_of_ble_eq_true rfl) (Nat.le_of_ble_eq_true rfl) dX2_init_7 (fun q1 cA2 H hK hP hD hS => ?_)
  have hK : va_K D vwCl [(cA2, .int)] s := hK
  have hP : va_P D vwCl [(h0, jC0), (q1, zC cA2 16 (fun _ => 0))] H := hP
  have hD : va_D A [(h0, jC0), (q1, zC cA2 16 (fun _ => 0))] := hD
  refine W.widen (k := 1) (n := 16) (Nat.le_of_ble_eq_true rfl) (Nat.le_of_ble_eq_true rfl) ?_
  refine va_putF (D := D) (ci := 2) (v := .ref q1) (C := RX2) (T := TX2) (N := 16) (ty := _) hx hb hw hin_wsX20 tyX2 tyX2_ok nmX2 hown hK hP hD hS 0 rfl rfl 5 (by decide) (hw _ kw_54) (fun _ h9 => h9) rfl hin rfl (tyX2_ok 5 (by decide)) rfl rfl (show 5 < 16 from by decide) dX2_init_9 (fun H locs hP hD hS => ?_)
  have hP : va_P D vwCl [(h0, .inr (2, [.int (iI 0), .int (iI 0), .int (iI 0), .int (iI 0), .int (iI 0), .ref q1, .null, .int (iI 0), .int (iI 0), .int (iI 0), .int (iI 0), .null, .int (iI 0), .null, .null, .int (iI 0)])), (q1, zC cA2 16 (fun _ => 0))] H := hP
  have hD : va_D A [(h0, .inr (2, [.int (iI 0), .int (iI 0), .int (iI 0), .int (iI 0), .int (iI 0), .ref q1, .null, .int (iI 0), .int (iI 0), .int (iI 0), .int (iI 0), .null, .int (iI 0), .null, .null, .int (iI 0)])), (q1, zC cA2 16 (fun _ => 0))] := hD
  refine lv_aload_n hx hb dX2_init_12 rfl (lv_at hl 0 rfl) ?_
  refine lv_bipush (v := iI 16) hx hb dX2_init_13 (by decide) ?_
  refine va_newa (atype := .int) (ty := .int) (N' := 16) (a0 := (16, (.inl (fun _ => 0)))) hx hb (hw _ kw_3) rfl hK hP hD hS hA (fun _ => rfl) (by decide) (by decide) (Nat.le_of_ble_eq_true rfl) (Nat.le_of_ble_eq_true rfl) (Nat.le_of_ble_eq_true rfl) dX2_init_15 (fun q3 cA4 H hK hP hD hS => ?_)
  have hK : va_K D vwCl [(cA2, .int), (cA4, .int)] s := hK
  obtain rfl : cA2 = cA4 := ci_eq hK 0 1 rfl rfl
  have hK := hK.sub (tys' := [(cA2, .int)]) [0] rfl
  have hP : va_P D vwCl [(h0, .inr (2, [.int (iI 0), .int (iI 0), .int (iI 0), .int (iI 0), .int (iI 0), .ref q1, .null, .int (iI 0), .int (iI 0), .int (iI 0), .int (iI 0), .null, .int (iI 0), .null, .null, .int (iI 0)])), (q1, zC cA2 16 (fun _ => 0)), (q3, zC cA2 16 (fun _ => 0))] H := hP
  have hD : va_D A [(h0, .inr (2, [.int (iI 0), .int (iI 0), .int (iI 0), .int (iI 0), .int (iI 0), .ref q1, .null, .int (iI 0), .int (iI 0), .int (iI 0), .int (iI 0), .null, .int (iI 0), .null, .null, .int (iI 0)])), (q1, zC cA2 16 (fun _ => 0)), (q3, zC cA2 16 (fun _ => 0))] := hD
  refine W.widen (k := 2) (n := 32) (Nat.le_of_ble_eq_true rfl) (Nat.le_of_ble_eq_true rfl) ?_
  refine va_putF (D := D) (ci := 2) (v := .ref q3) (C := RX2) (T := TX2) (N := 16) (ty := _) hx hb hw hin_wsX20 tyX2 tyX2_ok nmX2 hown hK hP hD hS 0 rfl rfl 6 (by decide) (hw _ kw_55) (fun _ h9 => h9) rfl hin rfl (tyX2_ok 6 (by decide)) rfl rfl (show 6 < 16 from by decide) dX2_init_17 (fun H locs hP hD hS => ?_)
  have hP : va_P D vwCl [(h0, .inr (2, [.int (iI 0), .int (iI 0), .int (iI 0), .int (iI 0), .int (iI 0), .ref q1, .ref q3, .int (iI 0), .int (iI 0), .int (iI 0), .int (iI 0), .null, .int (iI 0), .null, .null, .int (iI 0)])), (q1, zC cA2 16 (fun _ => 0)), (q3, zC cA2 16 (fun _ => 0))] H := hP
  have hD : va_D A [(h0, .inr (2, [.int (iI 0), .int (iI 0), .int (iI 0), .int (iI 0), .int (iI 0), .ref q1, .ref q3, .int (iI 0), .int (iI 0), .int (iI 0), .int (iI 0), .null, .int (iI 0), .null, .null, .int (iI 0)])), (q1, zC cA2 16 (fun _ => 0)), (q3, zC cA2 16 (fun _ => 0))] := hD
  refine lv_aload_n hx hb dX2_init_20 rfl (lv_at hl 0 rfl) ?_
  refine lv_bipush (v := iI 16) hx hb dX2_init_21 (by decide) ?_
  refine va_newa (atype := .int) (ty := .int) (N' := 16) (a0 := (16, (.inl (fun _ => 0)))) hx hb (hw _ kw_3) rfl hK hP hD hS hA (fun _ => rfl) (by decide) (by decide) (Nat.le_of_ble_eq_true rfl) (Nat.le_of_ble_eq_true rfl) (Nat.le_of_ble_eq_true rfl) dX2_init_23 (fun q5 cA6 H hK hP hD hS => ?_)
  have hK : va_K D vwCl [(cA2, .int), (cA6, .int)] s := hK
  obtain rfl : cA2 = cA6 := ci_eq hK 0 1 rfl rfl
  have hK := hK.sub (tys' := [(cA2, .int)]) [0] rfl
  have hP : va_P D vwCl [(h0, .inr (2, [.int (iI 0), .int (iI 0), .int (iI 0), .int (iI 0), .int (iI 0), .ref q1, .ref q3, .int (iI 0), .int (iI 0), .int (iI 0), .int (iI 0), .null, .int (iI 0), .null, .null, .int (iI 0)])), (q1, zC cA2 16 (fun _ => 0)), (q3, zC cA2 16 (fun _ => 0)), (q5, zC cA2 16 (fun _ => 0))] H := hP
  have hD : va_D A [(h0, .inr (2, [.int (iI 0), .int (iI 0), .int (iI 0), .int (iI 0), .int (iI 0), .ref q1, .ref q3, .int (iI 0), .int (iI 0), .int (iI 0), .int (iI 0), .null, .int (iI 0), .null, .null, .int (iI 0)])), (q1, zC cA2 16 (fun _ => 0)), (q3, zC cA2 16 (fun _ => 0)), (q5, zC cA2 16 (fun _ => 0))] := hD
  refine W.widen (k := 3) (n := 48) (Nat.le_of_ble_eq_true rfl) (Nat.le_of_ble_eq_true rfl) ?_
  refine va_putF (D := D) (ci := 2) (v := .ref q5) (C := RX2) (T := TX2) (N := 16) (ty := _) hx hb hw hin_wsX20 tyX2 tyX2_ok nmX2 hown hK hP hD hS 0 rfl rfl 11 (by decide) (hw _ kw_56) (fun _ h9 => h9) rfl hin rfl (tyX2_ok 11 (by decide)) rfl rfl (show 11 < 16 from by decide) dX2_init_25 (fun H locs hP hD hS => ?_)
  have hP : va_P D vwCl [(h0, .inr (2, [.int (iI 0), .int (iI 0), .int (iI 0), .int (iI 0), .int (iI 0), .ref q1, .ref q3, .int (iI 0), .int (iI 0), .int (iI 0), .int (iI 0), .ref q5, .int (iI 0), .null, .null, .int (iI 0)])), (q1, zC cA2 16 (fun _ => 0)), (q3, zC cA2 16 (fun _ => 0)), (q5, zC cA2 16 (fun _ => 0))] H := hP
  have hD : va_D A [(h0, .inr (2, [.int (iI 0), .int (iI 0), .int (iI 0), .int (iI 0), .int (iI 0), .ref q1, .ref q3, .int (iI 0), .int (iI 0), .int (iI 0), .int (iI 0), .ref q5, .int (iI 0), .null, .null, .int (iI 0)])), (q1, zC cA2 16 (fun _ => 0)), (q3, zC cA2 16 (fun _ => 0)), (q5, zC cA2 16 (fun _ => 0))] := hD
  refine lv_aload_n hx hb dX2_init_28 rfl (lv_at hl 0 rfl) ?_
  refine lv_bipush (v := iI 16) hx hb dX2_init_29 (by decide) ?_
  refine va_newa (atype := .int) (ty := .int) (N' := 16) (a0 := (16, (.inl (fun _ => 0)))) hx hb (hw _ kw_3) rfl hK hP hD hS hA (fun _ => rfl) (by decide) (by decide) (Nat.le_of_ble_eq_true rfl) (Nat.le_of_ble_eq_true rfl) (Nat.le_of_ble_eq_true rfl) dX2_init_31 (fun q7 cA8 H hK hP hD hS => ?_)
  have hK : va_K D vwCl [(cA2, .int), (cA8, .int)] s := hK
  obtain rfl : cA2 = cA8 := ci_eq hK 0 1 rfl rfl
  have hK := hK.sub (tys' := [(cA2, .int)]) [0] rfl
  have hP : va_P D vwCl [(h0, .inr (2, [.int (iI 0), .int (iI 0), .int (iI 0), .int (iI 0), .int (iI 0), .ref q1, .ref q3, .int (iI 0), .int (iI 0), .int (iI 0), .int (iI 0), .ref q5, .int (iI 0), .null, .null, .int (iI 0)])), (q1, zC cA2 16 (fun _ => 0)), (q3, zC cA2 16 (fun _ => 0)), (q5, zC cA2 16 (fun _ => 0)), (q7, zC cA2 16 (fun _ => 0))] H := hP
  have hD : va_D A [(h0, .inr (2, [.int (iI 0), .int (iI 0), .int (iI 0), .int (iI 0), .int (iI 0), .ref q1, .ref q3, .int (iI 0), .int (iI 0), .int (iI 0), .int (iI 0), .ref q5, .int (iI 0), .null, .null, .int (iI 0)])), (q1, zC cA2 16 (fun _ => 0)), (q3, zC cA2 16 (fun _ => 0)), (q5, zC cA2 16 (fun _ => 0)), (q7, zC cA2 16 (fun _ => 0))] := hD
  refine W.widen (k := 4) (n := 64) (Nat.le_of_ble_eq_true rfl) (Nat.le_of_ble_eq_true rfl) ?_
  refine va_putF (D := D) (ci := 2) (v := .ref q7) (C := RX2) (T := TX2) (N := 16) (ty := _) hx hb hw hin_wsX20 tyX2 tyX2_ok nmX2 hown hK hP hD hS 0 rfl rfl 13 (by decide) (hw _ kw_57) (fun _ h9 => h9) rfl hin rfl (tyX2_ok 13 (by decide)) rfl rfl (show 13 < 16 from by decide) dX2_init_33 (fun H locs hP hD hS => ?_)
  have hP : va_P D vwCl [(h0, .inr (2, [.int (iI 0), .int (iI 0), .int (iI 0), .int (iI 0), .int (iI 0), .ref q1, .ref q3, .int (iI 0), .int (iI 0), .int (iI 0), .int (iI 0), .ref q5, .int (iI 0), .ref q7, .null, .int (iI 0)])), (q1, zC cA2 16 (fun _ => 0)), (q3, zC cA2 16 (fun _ => 0)), (q5, zC cA2 16 (fun _ => 0)), (q7, zC cA2 16 (fun _ => 0))] H := hP
  have hD : va_D A [(h0, .inr (2, [.int (iI 0), .int (iI 0), .int (iI 0), .int (iI 0), .int (iI 0), .ref q1, .ref q3, .int (iI 0), .int (iI 0), .int (iI 0), .int (iI 0), .ref q5, .int (iI 0), .ref q7, .null, .int (iI 0)])), (q1, zC cA2 16 (fun _ => 0)), (q3, zC cA2 16 (fun _ => 0)), (q5, zC cA2 16 (fun _ => 0)), (q7, zC cA2 16 (fun _ => 0))] := hD
  refine lv_aload_n hx hb dX2_init_36 rfl (lv_at hl 0 rfl) ?_
  refine lv_iconst (v := iI 5) hx hb dX2_init_37 (by decide) ?_
  refine va_newa (atype := .int) (ty := .int) (N' := 5) (a0 := (5, (.inl (fun _ => 0)))) hx hb (hw _ kw_3) rfl hK hP hD hS hA (fun _ => rfl) (by decide) (by decide) (Nat.le_of_ble_eq_true rfl) (Nat.le_of_ble_eq_true rfl) (Nat.le_of_ble_eq_true rfl) dX2_init_38 (fun q9 cA10 H hK hP hD hS => ?_)
  have hK : va_K D vwCl [(cA2, .int), (cA10, .int)] s := hK
  obtain rfl : cA2 = cA10 := ci_eq hK 0 1 rfl rfl
  have hK := hK.sub (tys' := [(cA2, .int)]) [0] rfl
  have hP : va_P D vwCl [(h0, .inr (2, [.int (iI 0), .int (iI 0), .int (iI 0), .int (iI 0), .int (iI 0), .ref q1, .ref q3, .int (iI 0), .int (iI 0), .int (iI 0), .int (iI 0), .ref q5, .int (iI 0), .ref q7, .null, .int (iI 0)])), (q1, zC cA2 16 (fun _ => 0)), (q3, zC cA2 16 (fun _ => 0)), (q5, zC cA2 16 (fun _ => 0)), (q7, zC cA2 16 (fun _ => 0)), (q9, zC cA2 5 (fun _ => 0))] H := hP
  have hD : va_D A [(h0, .inr (2, [.int (iI 0), .int (iI 0), .int (iI 0), .int (iI 0), .int (iI 0), .ref q1, .ref q3, .int (iI 0), .int (iI 0), .int (iI 0), .int (iI 0), .ref q5, .int (iI 0), .ref q7, .null, .int (iI 0)])), (q1, zC cA2 16 (fun _ => 0)), (q3, zC cA2 16 (fun _ => 0)), (q5, zC cA2 16 (fun _ => 0)), (q7, zC cA2 16 (fun _ => 0)), (q9, zC cA2 5 (fun _ => 0))] := hD
  refine W.widen (k := 5) (n := 69) (Nat.le_of_ble_eq_true rfl) (Nat.le_of_ble_eq_true rfl) ?_
  refine va_putF (D := D) (ci := 2) (v := .ref q9) (C := RX2) (T := TX2) (N := 16) (ty := _) hx hb hw hin_wsX20 tyX2 tyX2_ok nmX2 hown hK hP hD hS 0 rfl rfl 14 (by decide) (hw _ kw_58) (fun _ h9 => h9) rfl hin rfl (tyX2_ok 14 (by decide)) rfl rfl (show 14 < 16 from by decide) dX2_init_40 (fun H locs hP hD hS => ?_)
  have hP : va_P D vwCl [(h0, jC q1 q3 q5 q7 q9), (q1, zC cA2 16 (fun _ => 0)), (q3, zC cA2 16 (fun _ => 0)), (q5, zC cA2 16 (fun _ => 0)), (q7, zC cA2 16 (fun _ => 0)), (q9, zC cA2 5 (fun _ => 0))] H := hP
  have hD : va_D A [(h0, jC q1 q3 q5 q7 q9), (q1, zC cA2 16 (fun _ => 0)), (q3, zC cA2 16 (fun _ => 0)), (q5, zC cA2 16 (fun _ => 0)), (q7, zC cA2 16 (fun _ => 0)), (q9, zC cA2 5 (fun _ => 0))] := hD
  refine lv_iconst (v := iI 0) hx hb dX2_init_43 (by decide) ?_
  refine lv_istore_n (lv' := [(1, .int (iI 0)), (0, .ref h0)]) hx hb dX2_init_44 rfl hl (by decide) rfl (fun ls hl => ?_)
  refine lv_iload_n hx hb dX2_init_45 rfl (lv_at hl 0 rfl) ?_
  refine lv_bipush (v := iI 16) hx hb dX2_init_46 (by decide) ?_
  refine n_icmp_ge hx hb (by unfold RI; omega) (by unfold RI; omega) (tgt := 64) dX2_init_48 (by decide) (fun h => absurd h (by decide)) (fun _ => ?_)
  refine lv_aload_n hx hb dX2_init_51 rfl (lv_at hl 1 rfl) ?_
  refine va_get (D := D) (ci := 2) (v := .ref q5) (C := RX2) (T := TX2) (N := 16) hx hb hw hin_wsX20 hown hK hP 0 rfl rfl 11 (by decide) (hw _ kw_56) (fun _ h9 => h9) rfl dX2_init_52 ?_
  refine lv_iload_n hx hb dX2_init_55 rfl (lv_at hl 0 rfl) ?_
  refine lv_iconst (v := iI (-1)) hx hb dX2_init_56 (by decide) ?_
  refine va_iast hx hb hK hP hD hS 3 0 rfl rfl (by unfold vp_in; decide +kernel) dX2_init_57 (fun H locs hP hD hS => ?_)
  obtain ⟨f11, hf11⟩ : ∃ f, f = upd (fun _ => 0) (Int32.toNatClampNeg (iI 0)) (iI (-1)) := ⟨_, rfl⟩
  have hP : va_P D vwCl [(h0, jC q1 q3 q5 q7 q9), (q1, zC cA2 16 (fun _ => 0)), (q3, zC cA2 16 (fun _ => 0)), (q5, zC cA2 16 (upd (fun _ => 0) (Int32.toNatClampNeg (iI 0)) (iI (-1)))), (q7, zC cA2 16 (fun _ => 0)), (q9, zC cA2 5 (fun _ => 0))] H := hP
  have hD : va_D A [(h0, jC q1 q3 q5 q7 q9), (q1, zC cA2 16 (fun _ => 0)), (q3, zC cA2 16 (fun _ => 0)), (q5, zC cA2 16 (upd (fun _ => 0) (Int32.toNatClampNeg (iI 0)) (iI (-1)))), (q7, zC cA2 16 (fun _ => 0)), (q9, zC cA2 5 (fun _ => 0))] := hD
  rw [← hf11] at hP hD
  refine lv_iinc (v := iI 1) (lv' := [(1, .int (iI 1)), (0, .ref h0)]) hx hb dX2_init_58 hl (k := 0) rfl (by decide) (by decide) rfl (fun ls hl => ?_)
  refine lv_goto (tgt := 45) hx hb dX2_init_61 (by decide) ?_
  refine lv_iload_n hx hb dX2_init_45 rfl (lv_at hl 0 rfl) ?_
  refine lv_bipush (v := iI 16) hx hb dX2_init_46 (by decide) ?_
  refine n_icmp_ge hx hb (by unfold RI; omega) (by unfold RI; omega) (tgt := 64) dX2_init_48 (by decide) (fun h => absurd h (by decide)) (fun _ => ?_)
  refine lv_aload_n hx hb dX2_init_51 rfl (lv_at hl 1 rfl) ?_
  refine va_get (D := D) (ci := 2) (v := .ref q5) (C := RX2) (T := TX2) (N := 16) hx hb hw hin_wsX20 hown hK hP 0 rfl rfl 11 (by decide) (hw _ kw_56) (fun _ h9 => h9) rfl dX2_init_52 ?_
  refine lv_iload_n hx hb dX2_init_55 rfl (lv_at hl 0 rfl) ?_
  refine lv_iconst (v := iI (-1)) hx hb dX2_init_56 (by decide) ?_
  refine va_iast hx hb hK hP hD hS 3 0 rfl rfl (by unfold vp_in; decide +kernel) dX2_init_57 (fun H locs hP hD hS => ?_)
  obtain ⟨f12, hf12⟩ : ∃ f, f = upd f11 (Int32.toNatClampNeg (iI 1)) (iI (-1)) := ⟨_, rfl⟩
  have hP : va_P D vwCl [(h0, jC q1 q3 q5 q7 q9), (q1, zC cA2 16 (fun _ => 0)), (q3, zC cA2 16 (fun _ => 0)), (q5, zC cA2 16 (upd f11 (Int32.toNatClampNeg (iI 1)) (iI (-1)))), (q7, zC cA2 16 (fun _ => 0)), (q9, zC cA2 5 (fun _ => 0))] H := hP
  have hD : va_D A [(h0, jC q1 q3 q5 q7 q9), (q1, zC cA2 16 (fun _ => 0)), (q3, zC cA2 16 (fun _ => 0)), (q5, zC cA2 16 (upd f11 (Int32.toNatClampNeg (iI 1)) (iI (-1)))), (q7, zC cA2 16 (fun _ => 0)), (q9, zC cA2 5 (fun _ => 0))] := hD
  rw [← hf12] at hP hD
  refine lv_iinc (v := iI 2) (lv' := [(1, .int (iI 2)), (0, .ref h0)]) hx hb dX2_init_58 hl (k := 0) rfl (by decide) (by decide) rfl (fun ls hl => ?_)
  refine lv_goto (tgt := 45) hx hb dX2_init_61 (by decide) ?_
  refine lv_iload_n hx hb dX2_init_45 rfl (lv_at hl 0 rfl) ?_
  refine lv_bipush (v := iI 16) hx hb dX2_init_46 (by decide) ?_
  refine n_icmp_ge hx hb (by unfold RI; omega) (by unfold RI; omega) (tgt := 64) dX2_init_48 (by decide) (fun h => absurd h (by decide)) (fun _ => ?_)
  refine lv_aload_n hx hb dX2_init_51 rfl (lv_at hl 1 rfl) ?_
  refine va_get (D := D) (ci := 2) (v := .ref q5) (C := RX2) (T := TX2) (N := 16) hx hb hw hin_wsX20 hown hK hP 0 rfl rfl 11 (by decide) (hw _ kw_56) (fun _ h9 => h9) rfl dX2_init_52 ?_
  refine lv_iload_n hx hb dX2_init_55 rfl (lv_at hl 0 rfl) ?_
  refine lv_iconst (v := iI (-1)) hx hb dX2_init_56 (by decide) ?_
  refine va_iast hx hb hK hP hD hS 3 0 rfl rfl (by unfold vp_in; decide +kernel) dX2_init_57 (fun H locs hP hD hS => ?_)
  obtain ⟨f13, hf13⟩ : ∃ f, f = upd f12 (Int32.toNatClampNeg (iI 2)) (iI (-1)) := ⟨_, rfl⟩
  have hP : va_P D vwCl [(h0, jC q1 q3 q5 q7 q9), (q1, zC cA2 16 (fun _ => 0)), (q3, zC cA2 16 (fun _ => 0)), (q5, zC cA2 16 (upd f12 (Int32.toNatClampNeg (iI 2)) (iI (-1)))), (q7, zC cA2 16 (fun _ => 0)), (q9, zC cA2 5 (fun _ => 0))] H := hP
  have hD : va_D A [(h0, jC q1 q3 q5 q7 q9), (q1, zC cA2 16 (fun _ => 0)), (q3, zC cA2 16 (fun _ => 0)), (q5, zC cA2 16 (upd f12 (Int32.toNatClampNeg (iI 2)) (iI (-1)))), (q7, zC cA2 16 (fun _ => 0)), (q9, zC cA2 5 (fun _ => 0))] := hD
  rw [← hf13] at hP hD
  refine lv_iinc (v := iI 3) (lv' := [(1, .int (iI 3)), (0, .ref h0)]) hx hb dX2_init_58 hl (k := 0) rfl (by decide) (by decide) rfl (fun ls hl => ?_)
  refine lv_goto (tgt := 45) hx hb dX2_init_61 (by decide) ?_
  refine lv_iload_n hx hb dX2_init_45 rfl (lv_at hl 0 rfl) ?_
  refine lv_bipush (v := iI 16) hx hb dX2_init_46 (by decide) ?_
  refine n_icmp_ge hx hb (by unfold RI; omega) (by unfold RI; omega) (tgt := 64) dX2_init_48 (by decide) (fun h => absurd h (by decide)) (fun _ => ?_)
  refine lv_aload_n hx hb dX2_init_51 rfl (lv_at hl 1 rfl) ?_
  refine va_get (D := D) (ci := 2) (v := .ref q5) (C := RX2) (T := TX2) (N := 16) hx hb hw hin_wsX20 hown hK hP 0 rfl rfl 11 (by decide) (hw _ kw_56) (fun _ h9 => h9) rfl dX2_init_52 ?_
  refine lv_iload_n hx hb dX2_init_55 rfl (lv_at hl 0 rfl) ?_
  refine lv_iconst (v := iI (-1)) hx hb dX2_init_56 (by decide) ?_
  refine va_iast hx hb hK hP hD hS 3 0 rfl rfl (by unfold vp_in; decide +kernel) dX2_init_57 (fun H locs hP hD hS => ?_)
  obtain ⟨f14, hf14⟩ : ∃ f, f = upd f13 (Int32.toNatClampNeg (iI 3)) (iI (-1)) := ⟨_, rfl⟩
  have hP : va_P D vwCl [(h0, jC q1 q3 q5 q7 q9), (q1, zC cA2 16 (fun _ => 0)), (q3, zC cA2 16 (fun _ => 0)), (q5, zC cA2 16 (upd f13 (Int32.toNatClampNeg (iI 3)) (iI (-1)))), (q7, zC cA2 16 (fun _ => 0)), (q9, zC cA2 5 (fun _ => 0))] H := hP
  have hD : va_D A [(h0, jC q1 q3 q5 q7 q9), (q1, zC cA2 16 (fun _ => 0)), (q3, zC cA2 16 (fun _ => 0)), (q5, zC cA2 16 (upd f13 (Int32.toNatClampNeg (iI 3)) (iI (-1)))), (q7, zC cA2 16 (fun _ => 0)), (q9, zC cA2 5 (fun _ => 0))] := hD
  rw [← hf14] at hP hD
  refine lv_iinc (v := iI 4) (lv' := [(1, .int (iI 4)), (0, .ref h0)]) hx hb dX2_init_58 hl (k := 0) rfl (by decide) (by decide) rfl (fun ls hl => ?_)
  refine lv_goto (tgt := 45) hx hb dX2_init_61 (by decide) ?_
  refine lv_iload_n hx hb dX2_init_45 rfl (lv_at hl 0 rfl) ?_
  refine lv_bipush (v := iI 16) hx hb dX2_init_46 (by decide) ?_
  refine n_icmp_ge hx hb (by unfold RI; omega) (by unfold RI; omega) (tgt := 64) dX2_init_48 (by decide) (fun h => absurd h (by decide)) (fun _ => ?_)
  refine lv_aload_n hx hb dX2_init_51 rfl (lv_at hl 1 rfl) ?_
  refine va_get (D := D) (ci := 2) (v := .ref q5) (C := RX2) (T := TX2) (N := 16) hx hb hw hin_wsX20 hown hK hP 0 rfl rfl 11 (by decide) (hw _ kw_56) (fun _ h9 => h9) rfl dX2_init_52 ?_
  refine lv_iload_n hx hb dX2_init_55 rfl (lv_at hl 0 rfl) ?_
  refine lv_iconst (v := iI (-1)) hx hb dX2_init_56 (by decide) ?_
  refine va_iast hx hb hK hP hD hS 3 0 rfl rfl (by unfold vp_in; decide +kernel) dX2_init_57 (fun H locs hP hD hS => ?_)
  obtain ⟨f15, hf15⟩ : ∃ f, f = upd f14 (Int32.toNatClampNeg (iI 4)) (iI (-1)) := ⟨_, rfl⟩
  have hP : va_P D vwCl [(h0, jC q1 q3 q5 q7 q9), (q1, zC cA2 16 (fun _ => 0)), (q3, zC cA2 16 (fun _ => 0)), (q5, zC cA2 16 (upd f14 (Int32.toNatClampNeg (iI 4)) (iI (-1)))), (q7, zC cA2 16 (fun _ => 0)), (q9, zC cA2 5 (fun _ => 0))] H := hP
  have hD : va_D A [(h0, jC q1 q3 q5 q7 q9), (q1, zC cA2 16 (fun _ => 0)), (q3, zC cA2 16 (fun _ => 0)), (q5, zC cA2 16 (upd f14 (Int32.toNatClampNeg (iI 4)) (iI (-1)))), (q7, zC cA2 16 (fun _ => 0)), (q9, zC cA2 5 (fun _ => 0))] := hD
  rw [← hf15] at hP hD
  refine lv_iinc (v := iI 5) (lv' := [(1, .int (iI 5)), (0, .ref h0)]) hx hb dX2_init_58 hl (k := 0) rfl (by decide) (by decide) rfl (fun ls hl => ?_)
  refine lv_goto (tgt := 45) hx hb dX2_init_61 (by decide) ?_
  refine lv_iload_n hx hb dX2_init_45 rfl (lv_at hl 0 rfl) ?_
  refine lv_bipush (v := iI 16) hx hb dX2_init_46 (by decide) ?_
  refine n_icmp_ge hx hb (by unfold RI; omega) (by unfold RI; omega) (tgt := 64) dX2_init_48 (by decide) (fun h => absurd h (by decide)) (fun _ => ?_)
  refine lv_aload_n hx hb dX2_init_51 rfl (lv_at hl 1 rfl) ?_
  refine va_get (D := D) (ci := 2) (v := .ref q5) (C := RX2) (T := TX2) (N := 16) hx hb hw hin_wsX20 hown hK hP 0 rfl rfl 11 (by decide) (hw _ kw_56) (fun _ h9 => h9) rfl dX2_init_52 ?_
  refine lv_iload_n hx hb dX2_init_55 rfl (lv_at hl 0 rfl) ?_
  refine lv_iconst (v := iI (-1)) hx hb dX2_init_56 (by decide) ?_
  refine va_iast hx hb hK hP hD hS 3 0 rfl rfl (by unfold vp_in; decide +kernel) dX2_init_57 (fun H locs hP hD hS => ?_)
  obtain ⟨f16, hf16⟩ : ∃ f, f = upd f15 (Int32.toNatClampNeg (iI 5)) (iI (-1)) := ⟨_, rfl⟩
  have hP : va_P D vwCl [(h0, jC q1 q3 q5 q7 q9), (q1, zC cA2 16 (fun _ => 0)), (q3, zC cA2 16 (fun _ => 0)), (q5, zC cA2 16 (upd f15 (Int32.toNatClampNeg (iI 5)) (iI (-1)))), (q7, zC cA2 16 (fun _ => 0)), (q9, zC cA2 5 (fun _ => 0))] H := hP
  have hD : va_D A [(h0, jC q1 q3 q5 q7 q9), (q1, zC cA2 16 (fun _ => 0)), (q3, zC cA2 16 (fun _ => 0)), (q5, zC cA2 16 (upd f15 (Int32.toNatClampNeg (iI 5)) (iI (-1)))), (q7, zC cA2 16 (fun _ => 0)), (q9, zC cA2 5 (fun _ => 0))] := hD
  rw [← hf16] at hP hD
  refine lv_iinc (v := iI 6) (lv' := [(1, .int (iI 6)), (0, .ref h0)]) hx hb dX2_init_58 hl (k := 0) rfl (by decide) (by decide) rfl (fun ls hl => ?_)
  refine lv_goto (tgt := 45) hx hb dX2_init_61 (by decide) ?_
  refine lv_iload_n hx hb dX2_init_45 rfl (lv_at hl 0 rfl) ?_
  refine lv_bipush (v := iI 16) hx hb dX2_init_46 (by decide) ?_
  refine n_icmp_ge hx hb (by unfold RI; omega) (by unfold RI; omega) (tgt := 64) dX2_init_48 (by decide) (fun h => absurd h (by decide)) (fun _ => ?_)
  refine lv_aload_n hx hb dX2_init_51 rfl (lv_at hl 1 rfl) ?_
  refine va_get (D := D) (ci := 2) (v := .ref q5) (C := RX2) (T := TX2) (N := 16) hx hb hw hin_wsX20 hown hK hP 0 rfl rfl 11 (by decide) (hw _ kw_56) (fun _ h9 => h9) rfl dX2_init_52 ?_
  refine lv_iload_n hx hb dX2_init_55 rfl (lv_at hl 0 rfl) ?_
  refine lv_iconst (v := iI (-1)) hx hb dX2_init_56 (by decide) ?_
  refine va_iast hx hb hK hP hD hS 3 0 rfl rfl (by unfold vp_in; decide +kernel) dX2_init_57 (fun H locs hP hD hS => ?_)
  obtain ⟨f17, hf17⟩ : ∃ f, f = upd f16 (Int32.toNatClampNeg (iI 6)) (iI (-1)) := ⟨_, rfl⟩
  have hP : va_P D vwCl [(h0, jC q1 q3 q5 q7 q9), (q1, zC cA2 16 (fun _ => 0)), (q3, zC cA2 16 (fun _ => 0)), (q5, zC cA2 16 (upd f16 (Int32.toNatClampNeg (iI 6)) (iI (-1)))), (q7, zC cA2 16 (fun _ => 0)), (q9, zC cA2 5 (fun _ => 0))] H := hP
  have hD : va_D A [(h0, jC q1 q3 q5 q7 q9), (q1, zC cA2 16 (fun _ => 0)), (q3, zC cA2 16 (fun _ => 0)), (q5, zC cA2 16 (upd f16 (Int32.toNatClampNeg (iI 6)) (iI (-1)))), (q7, zC cA2 16 (fun _ => 0)), (q9, zC cA2 5 (fun _ => 0))] := hD
  rw [← hf17] at hP hD
  refine lv_iinc (v := iI 7) (lv' := [(1, .int (iI 7)), (0, .ref h0)]) hx hb dX2_init_58 hl (k := 0) rfl (by decide) (by decide) rfl (fun ls hl => ?_)
  refine lv_goto (tgt := 45) hx hb dX2_init_61 (by decide) ?_
  refine lv_iload_n hx hb dX2_init_45 rfl (lv_at hl 0 rfl) ?_
  refine lv_bipush (v := iI 16) hx hb dX2_init_46 (by decide) ?_
  refine n_icmp_ge hx hb (by unfold RI; omega) (by unfold RI; omega) (tgt := 64) dX2_init_48 (by decide) (fun h => absurd h (by decide)) (fun _ => ?_)
  refine lv_aload_n hx hb dX2_init_51 rfl (lv_at hl 1 rfl) ?_
  refine va_get (D := D) (ci := 2) (v := .ref q5) (C := RX2) (T := TX2) (N := 16) hx hb hw hin_wsX20 hown hK hP 0 rfl rfl 11 (by decide) (hw _ kw_56) (fun _ h9 => h9) rfl dX2_init_52 ?_
  refine lv_iload_n hx hb dX2_init_55 rfl (lv_at hl 0 rfl) ?_
  refine lv_iconst (v := iI (-1)) hx hb dX2_init_56 (by decide) ?_
  refine va_iast hx hb hK hP hD hS 3 0 rfl rfl (by unfold vp_in; decide +kernel) dX2_init_57 (fun H locs hP hD hS => ?_)
  obtain ⟨f18, hf18⟩ : ∃ f, f = upd f17 (Int32.toNatClampNeg (iI 7)) (iI (-1)) := ⟨_, rfl⟩
  have hP : va_P D vwCl [(h0, jC q1 q3 q5 q7 q9), (q1, zC cA2 16 (fun _ => 0)), (q3, zC cA2 16 (fun _ => 0)), (q5, zC cA2 16 (upd f17 (Int32.toNatClampNeg (iI 7)) (iI (-1)))), (q7, zC cA2 16 (fun _ => 0)), (q9, zC cA2 5 (fun _ => 0))] H := hP
  have hD : va_D A [(h0, jC q1 q3 q5 q7 q9), (q1, zC cA2 16 (fun _ => 0)), (q3, zC cA2 16 (fun _ => 0)), (q5, zC cA2 16 (upd f17 (Int32.toNatClampNeg (iI 7)) (iI (-1)))), (q7, zC cA2 16 (fun _ => 0)), (q9, zC cA2 5 (fun _ => 0))] := hD
  rw [← hf18] at hP hD
  refine lv_iinc (v := iI 8) (lv' := [(1, .int (iI 8)), (0, .ref h0)]) hx hb dX2_init_58 hl (k := 0) rfl (by decide) (by decide) rfl (fun ls hl => ?_)
  refine lv_goto (tgt := 45) hx hb dX2_init_61 (by decide) ?_
  refine lv_iload_n hx hb dX2_init_45 rfl (lv_at hl 0 rfl) ?_
  refine lv_bipush (v := iI 16) hx hb dX2_init_46 (by decide) ?_
  refine n_icmp_ge hx hb (by unfold RI; omega) (by unfold RI; omega) (tgt := 64) dX2_init_48 (by decide) (fun h => absurd h (by decide)) (fun _ => ?_)
  refine lv_aload_n hx hb dX2_init_51 rfl (lv_at hl 1 rfl) ?_
  refine va_get (D := D) (ci := 2) (v := .ref q5) (C := RX2) (T := TX2) (N := 16) hx hb hw hin_wsX20 hown hK hP 0 rfl rfl 11 (by decide) (hw _ kw_56) (fun _ h9 => h9) rfl dX2_init_52 ?_
  refine lv_iload_n hx hb dX2_init_55 rfl (lv_at hl 0 rfl) ?_
  refine lv_iconst (v := iI (-1)) hx hb dX2_init_56 (by decide) ?_
  refine va_iast hx hb hK hP hD hS 3 0 rfl rfl (by unfold vp_in; decide +kernel) dX2_init_57 (fun H locs hP hD hS => ?_)
  obtain ⟨f19, hf19⟩ : ∃ f, f = upd f18 (Int32.toNatClampNeg (iI 8)) (iI (-1)) := ⟨_, rfl⟩
  have hP : va_P D vwCl [(h0, jC q1 q3 q5 q7 q9), (q1, zC cA2 16 (fun _ => 0)), (q3, zC cA2 16 (fun _ => 0)), (q5, zC cA2 16 (upd f18 (Int32.toNatClampNeg (iI 8)) (iI (-1)))), (q7, zC cA2 16 (fun _ => 0)), (q9, zC cA2 5 (fun _ => 0))] H := hP
  have hD : va_D A [(h0, jC q1 q3 q5 q7 q9), (q1, zC cA2 16 (fun _ => 0)), (q3, zC cA2 16 (fun _ => 0)), (q5, zC cA2 16 (upd f18 (Int32.toNatClampNeg (iI 8)) (iI (-1)))), (q7, zC cA2 16 (fun _ => 0)), (q9, zC cA2 5 (fun _ => 0))] := hD
  rw [← hf19] at hP hD
  refine lv_iinc (v := iI 9) (lv' := [(1, .int (iI 9)), (0, .ref h0)]) hx hb dX2_init_58 hl (k := 0) rfl (by decide) (by decide) rfl (fun ls hl => ?_)
  refine lv_goto (tgt := 45) hx hb dX2_init_61 (by decide) ?_
  refine lv_iload_n hx hb dX2_init_45 rfl (lv_at hl 0 rfl) ?_
  refine lv_bipush (v := iI 16) hx hb dX2_init_46 (by decide) ?_
  refine n_icmp_ge hx hb (by unfold RI; omega) (by unfold RI; omega) (tgt := 64) dX2_init_48 (by decide) (fun h => absurd h (by decide)) (fun _ => ?_)
  refine lv_aload_n hx hb dX2_init_51 rfl (lv_at hl 1 rfl) ?_
  refine va_get (D := D) (ci := 2) (v := .ref q5) (C := RX2) (T := TX2) (N := 16) hx hb hw hin_wsX20 hown hK hP 0 rfl rfl 11 (by decide) (hw _ kw_56) (fun _ h9 => h9) rfl dX2_init_52 ?_
  refine lv_iload_n hx hb dX2_init_55 rfl (lv_at hl 0 rfl) ?_
  refine lv_iconst (v := iI (-1)) hx hb dX2_init_56 (by decide) ?_
  refine va_iast hx hb hK hP hD hS 3 0 rfl rfl (by unfold vp_in; decide +kernel) dX2_init_57 (fun H locs hP hD hS => ?_)
  obtain ⟨f20, hf20⟩ : ∃ f, f = upd f19 (Int32.toNatClampNeg (iI 9)) (iI (-1)) := ⟨_, rfl⟩
  have hP : va_P D vwCl [(h0, jC q1 q3 q5 q7 q9), (q1, zC cA2 16 (fun _ => 0)), (q3, zC cA2 16 (fun _ => 0)), (q5, zC cA2 16 (upd f19 (Int32.toNatClampNeg (iI 9)) (iI (-1)))), (q7, zC cA2 16 (fun _ => 0)), (q9, zC cA2 5 (fun _ => 0))] H := hP
  have hD : va_D A [(h0, jC q1 q3 q5 q7 q9), (q1, zC cA2 16 (fun _ => 0)), (q3, zC cA2 16 (fun _ => 0)), (q5, zC cA2 16 (upd f19 (Int32.toNatClampNeg (iI 9)) (iI (-1)))), (q7, zC cA2 16 (fun _ => 0)), (q9, zC cA2 5 (fun _ => 0))] := hD
  rw [← hf20] at hP hD
  refine lv_iinc (v := iI 10) (lv' := [(1, .int (iI 10)), (0, .ref h0)]) hx hb dX2_init_58 hl (k := 0) rfl (by decide) (by decide) rfl (fun ls hl => ?_)
  refine lv_goto (tgt := 45) hx hb dX2_init_61 (by decide) ?_
  refine lv_iload_n hx hb dX2_init_45 rfl (lv_at hl 0 rfl) ?_
  refine lv_bipush (v := iI 16) hx hb dX2_init_46 (by decide) ?_
  refine n_icmp_ge hx hb (by unfold RI; omega) (by unfold RI; omega) (tgt := 64) dX2_init_48 (by decide) (fun h => absurd h (by decide)) (fun _ => ?_)
  refine lv_aload_n hx hb dX2_init_51 rfl (lv_at hl 1 rfl) ?_
  refine va_get (D := D) (ci := 2) (v := .ref q5) (C := RX2) (T := TX2) (N := 16) hx hb hw hin_wsX20 hown hK hP 0 rfl rfl 11 (by decide) (hw _ kw_56) (fun _ h9 => h9) rfl dX2_init_52 ?_
  refine lv_iload_n hx hb dX2_init_55 rfl (lv_at hl 0 rfl) ?_
  refine lv_iconst (v := iI (-1)) hx hb dX2_init_56 (by decide) ?_
  refine va_iast hx hb hK hP hD hS 3 0 rfl rfl (by unfold vp_in; decide +kernel) dX2_init_57 (fun H locs hP hD hS => ?_)
  obtain ⟨f21, hf21⟩ : ∃ f, f = upd f20 (Int32.toNatClampNeg (iI 10)) (iI (-1)) := ⟨_, rfl⟩
  have hP : va_P D vwCl [(h0, jC q1 q3 q5 q7 q9), (q1, zC cA2 16 (fun _ => 0)), (q3, zC cA2 16 (fun _ => 0)), (q5, zC cA2 16 (upd f20 (Int32.toNatClampNeg (iI 10)) (iI (-1)))), (q7, zC cA2 16 (fun _ => 0)), (q9, zC cA2 5 (fun _ => 0))] H := hP
  have hD : va_D A [(h0, jC q1 q3 q5 q7 q9), (q1, zC cA2 16 (fun _ => 0)), (q3, zC cA2 16 (fun _ => 0)), (q5, zC cA2 16 (upd f20 (Int32.toNatClampNeg (iI 10)) (iI (-1)))), (q7, zC cA2 16 (fun _ => 0)), (q9, zC cA2 5 (fun _ => 0))] := hD
  rw [← hf21] at hP hD
  refine lv_iinc (v := iI 11) (lv' := [(1, .int (iI 11)), (0, .ref h0)]) hx hb dX2_init_58 hl (k := 0) rfl (by decide) (by decide) rfl (fun ls hl => ?_)
  refine lv_goto (tgt := 45) hx hb dX2_init_61 (by decide) ?_
  refine lv_iload_n hx hb dX2_init_45 rfl (lv_at hl 0 rfl) ?_
  refine lv_bipush (v := iI 16) hx hb dX2_init_46 (by decide) ?_
  refine n_icmp_ge hx hb (by unfold RI; omega) (by unfold RI; omega) (tgt := 64) dX2_init_48 (by decide) (fun h => absurd h (by decide)) (fun _ => ?_)
  refine lv_aload_n hx hb dX2_init_51 rfl (lv_at hl 1 rfl) ?_
  refine va_get (D := D) (ci := 2) (v := .ref q5) (C := RX2) (T := TX2) (N := 16) hx hb hw hin_wsX20 hown hK hP 0 rfl rfl 11 (by decide) (hw _ kw_56) (fun _ h9 => h9) rfl dX2_init_52 ?_
  refine lv_iload_n hx hb dX2_init_55 rfl (lv_at hl 0 rfl) ?_
  refine lv_iconst (v := iI (-1)) hx hb dX2_init_56 (by decide) ?_
  refine va_iast hx hb hK hP hD hS 3 0 rfl rfl (by unfold vp_in; decide +kernel) dX2_init_57 (fun H locs hP hD hS => ?_)
  obtain ⟨f22, hf22⟩ : ∃ f, f = upd f21 (Int32.toNatClampNeg (iI 11)) (iI (-1)) := ⟨_, rfl⟩
  have hP : va_P D vwCl [(h0, jC q1 q3 q5 q7 q9), (q1, zC cA2 16 (fun _ => 0)), (q3, zC cA2 16 (fun _ => 0)), (q5, zC cA2 16 (upd f21 (Int32.toNatClampNeg (iI 11)) (iI (-1)))), (q7, zC cA2 16 (fun _ => 0)), (q9, zC cA2 5 (fun _ => 0))] H := hP
  have hD : va_D A [(h0, jC q1 q3 q5 q7 q9), (q1, zC cA2 16 (fun _ => 0)), (q3, zC cA2 16 (fun _ => 0)), (q5, zC cA2 16 (upd f21 (Int32.toNatClampNeg (iI 11)) (iI (-1)))), (q7, zC cA2 16 (fun _ => 0)), (q9, zC cA2 5 (fun _ => 0))] := hD
  rw [← hf22] at hP hD
  refine lv_iinc (v := iI 12) (lv' := [(1, .int (iI 12)), (0, .ref h0)]) hx hb dX2_init_58 hl (k := 0) rfl (by decide) (by decide) rfl (fun ls hl => ?_)
  refine lv_goto (tgt := 45) hx hb dX2_init_61 (by decide) ?_
  refine lv_iload_n hx hb dX2_init_45 rfl (lv_at hl 0 rfl) ?_
  refine lv_bipush (v := iI 16) hx hb dX2_init_46 (by decide) ?_
  refine n_icmp_ge hx hb (by unfold RI; omega) (by unfold RI; omega) (tgt := 64) dX2_init_48 (by decide) (fun h => absurd h (by decide)) (fun _ => ?_)
  refine lv_aload_n hx hb dX2_init_51 rfl (lv_at hl 1 rfl) ?_
  refine va_get (D := D) (ci := 2) (v := .ref q5) (C := RX2) (T := TX2) (N := 16) hx hb hw hin_wsX20 hown hK hP 0 rfl rfl 11 (by decide) (hw _ kw_56) (fun _ h9 => h9) rfl dX2_init_52 ?_
  refine lv_iload_n hx hb dX2_init_55 rfl (lv_at hl 0 rfl) ?_
  refine lv_iconst (v := iI (-1)) hx hb dX2_init_56 (by decide) ?_
  refine va_iast hx hb hK hP hD hS 3 0 rfl rfl (by unfold vp_in; decide +kernel) dX2_init_57 (fun H locs hP hD hS => ?_)
  obtain ⟨f23, hf23⟩ : ∃ f, f = upd f22 (Int32.toNatClampNeg (iI 12)) (iI (-1)) := ⟨_, rfl⟩
  have hP : va_P D vwCl [(h0, jC q1 q3 q5 q7 q9), (q1, zC cA2 16 (fun _ => 0)), (q3, zC cA2 16 (fun _ => 0)), (q5, zC cA2 16 (upd f22 (Int32.toNatClampNeg (iI 12)) (iI (-1)))), (q7, zC cA2 16 (fun _ => 0)), (q9, zC cA2 5 (fun _ => 0))] H := hP
  have hD : va_D A [(h0, jC q1 q3 q5 q7 q9), (q1, zC cA2 16 (fun _ => 0)), (q3, zC cA2 16 (fun _ => 0)), (q5, zC cA2 16 (upd f22 (Int32.toNatClampNeg (iI 12)) (iI (-1)))), (q7, zC cA2 16 (fun _ => 0)), (q9, zC cA2 5 (fun _ => 0))] := hD
  rw [← hf23] at hP hD
  refine lv_iinc (v := iI 13) (lv' := [(1, .int (iI 13)), (0, .ref h0)]) hx hb dX2_init_58 hl (k := 0) rfl (by decide) (by decide) rfl (fun ls hl => ?_)
  refine lv_goto (tgt := 45) hx hb dX2_init_61 (by decide) ?_
  refine lv_iload_n hx hb dX2_init_45 rfl (lv_at hl 0 rfl) ?_
  refine lv_bipush (v := iI 16) hx hb dX2_init_46 (by decide) ?_
  refine n_icmp_ge hx hb (by unfold RI; omega) (by unfold RI; omega) (tgt := 64) dX2_init_48 (by decide) (fun h => absurd h (by decide)) (fun _ => ?_)
  refine lv_aload_n hx hb dX2_init_51 rfl (lv_at hl 1 rfl) ?_
  refine va_get (D := D) (ci := 2) (v := .ref q5) (C := RX2) (T := TX2) (N := 16) hx hb hw hin_wsX20 hown hK hP 0 rfl rfl 11 (by decide) (hw _ kw_56) (fun _ h9 => h9) rfl dX2_init_52 ?_
  refine lv_iload_n hx hb dX2_init_55 rfl (lv_at hl 0 rfl) ?_
  refine lv_iconst (v := iI (-1)) hx hb dX2_init_56 (by decide) ?_
  refine va_iast hx hb hK hP hD hS 3 0 rfl rfl (by unfold vp_in; decide +kernel) dX2_init_57 (fun H locs hP hD hS => ?_)
  obtain ⟨f24, hf24⟩ : ∃ f, f = upd f23 (Int32.toNatClampNeg (iI 13)) (iI (-1)) := ⟨_, rfl⟩
  have hP : va_P D vwCl [(h0, jC q1 q3 q5 q7 q9), (q1, zC cA2 16 (fun _ => 0)), (q3, zC cA2 16 (fun _ => 0)), (q5, zC cA2 16 (upd f23 (Int32.toNatClampNeg (iI 13)) (iI (-1)))), (q7, zC cA2 16 (fun _ => 0)), (q9, zC cA2 5 (fun _ => 0))] H := hP
  have hD : va_D A [(h0, jC q1 q3 q5 q7 q9), (q1, zC cA2 16 (fun _ => 0)), (q3, zC cA2 16 (fun _ => 0)), (q5, zC cA2 16 (upd f23 (Int32.toNatClampNeg (iI 13)) (iI (-1)))), (q7, zC cA2 16 (fun _ => 0)), (q9, zC cA2 5 (fun _ => 0))] := hD
  rw [← hf24] at hP hD
  refine lv_iinc (v := iI 14) (lv' := [(1, .int (iI 14)), (0, .ref h0)]) hx hb dX2_init_58 hl (k := 0) rfl (by decide) (by decide) rfl (fun ls hl => ?_)
  refine lv_goto (tgt := 45) hx hb dX2_init_61 (by decide) ?_
  refine lv_iload_n hx hb dX2_init_45 rfl (lv_at hl 0 rfl) ?_
  refine lv_bipush (v := iI 16) hx hb dX2_init_46 (by decide) ?_
  refine n_icmp_ge hx hb (by unfold RI; omega) (by unfold RI; omega) (tgt := 64) dX2_init_48 (by decide) (fun h => absurd h (by decide)) (fun _ => ?_)
  refine lv_aload_n hx hb dX2_init_51 rfl (lv_at hl 1 rfl) ?_
  refine va_get (D := D) (ci := 2) (v := .ref q5) (C := RX2) (T := TX2) (N := 16) hx hb hw hin_wsX20 hown hK hP 0 rfl rfl 11 (by decide) (hw _ kw_56) (fun _ h9 => h9) rfl dX2_init_52 ?_
  refine lv_iload_n hx hb dX2_init_55 rfl (lv_at hl 0 rfl) ?_
  refine lv_iconst (v := iI (-1)) hx hb dX2_init_56 (by decide) ?_
  refine va_iast hx hb hK hP hD hS 3 0 rfl rfl (by unfold vp_in; decide +kernel) dX2_init_57 (fun H locs hP hD hS => ?_)
  obtain ⟨f25, hf25⟩ : ∃ f, f = upd f24 (Int32.toNatClampNeg (iI 14)) (iI (-1)) := ⟨_, rfl⟩
  have hP : va_P D vwCl [(h0, jC q1 q3 q5 q7 q9), (q1, zC cA2 16 (fun _ => 0)), (q3, zC cA2 16 (fun _ => 0)), (q5, zC cA2 16 (upd f24 (Int32.toNatClampNeg (iI 14)) (iI (-1)))), (q7, zC cA2 16 (fun _ => 0)), (q9, zC cA2 5 (fun _ => 0))] H := hP
  have hD : va_D A [(h0, jC q1 q3 q5 q7 q9), (q1, zC cA2 16 (fun _ => 0)), (q3, zC cA2 16 (fun _ => 0)), (q5, zC cA2 16 (upd f24 (Int32.toNatClampNeg (iI 14)) (iI (-1)))), (q7, zC cA2 16 (fun _ => 0)), (q9, zC cA2 5 (fun _ => 0))] := hD
  rw [← hf25] at hP hD
  refine lv_iinc (v := iI 15) (lv' := [(1, .int (iI 15)), (0, .ref h0)]) hx hb dX2_init_58 hl (k := 0) rfl (by decide) (by decide) rfl (fun ls hl => ?_)
  refine lv_goto (tgt := 45) hx hb dX2_init_61 (by decide) ?_
  refine lv_iload_n hx hb dX2_init_45 rfl (lv_at hl 0 rfl) ?_
  refine lv_bipush (v := iI 16) hx hb dX2_init_46 (by decide) ?_
  refine n_icmp_ge hx hb (by unfold RI; omega) (by unfold RI; omega) (tgt := 64) dX2_init_48 (by decide) (fun h => absurd h (by decide)) (fun _ => ?_)
  refine lv_aload_n hx hb dX2_init_51 rfl (lv_at hl 1 rfl) ?_
  refine va_get (D := D) (ci := 2) (v := .ref q5) (C := RX2) (T := TX2) (N := 16) hx hb hw hin_wsX20 hown hK hP 0 rfl rfl 11 (by decide) (hw _ kw_56) (fun _ h9 => h9) rfl dX2_init_52 ?_
  refine lv_iload_n hx hb dX2_init_55 rfl (lv_at hl 0 rfl) ?_
  refine lv_iconst (v := iI (-1)) hx hb dX2_init_56 (by decide) ?_
  refine va_iast hx hb hK hP hD hS 3 0 rfl rfl (by unfold vp_in; decide +kernel) dX2_init_57 (fun H locs hP hD hS => ?_)
  obtain ⟨f26, hf26⟩ : ∃ f, f = upd f25 (Int32.toNatClampNeg (iI 15)) (iI (-1)) := ⟨_, rfl⟩
  have hP : va_P D vwCl [(h0, jC q1 q3 q5 q7 q9), (q1, zC cA2 16 (fun _ => 0)), (q3, zC cA2 16 (fun _ => 0)), (q5, zC cA2 16 (upd f25 (Int32.toNatClampNeg (iI 15)) (iI (-1)))), (q7, zC cA2 16 (fun _ => 0)), (q9, zC cA2 5 (fun _ => 0))] H := hP
  have hD : va_D A [(h0, jC q1 q3 q5 q7 q9), (q1, zC cA2 16 (fun _ => 0)), (q3, zC cA2 16 (fun _ => 0)), (q5, zC cA2 16 (upd f25 (Int32.toNatClampNeg (iI 15)) (iI (-1)))), (q7, zC cA2 16 (fun _ => 0)), (q9, zC cA2 5 (fun _ => 0))] := hD
  rw [← hf26] at hP hD
  refine lv_iinc (v := iI 16) (lv' := [(1, .int (iI 16)), (0, .ref h0)]) hx hb dX2_init_58 hl (k := 0) rfl (by decide) (by decide) rfl (fun ls hl => ?_)
  refine lv_goto (tgt := 45) hx hb dX2_init_61 (by decide) ?_
  refine lv_iload_n hx hb dX2_init_45 rfl (lv_at hl 0 rfl) ?_
  refine lv_bipush (v := iI 16) hx hb dX2_init_46 (by decide) ?_
  refine n_icmp_ge hx hb (by unfold RI; omega) (by unfold RI; omega) (tgt := 64) dX2_init_48 (by decide) (fun _ => ?_) (fun h => absurd h (by decide))
  have hf : ∀ j, j < 16 → f26 j = iI (-1) := by rw [hf26, hf25, hf24, hf23, hf22, hf21, hf20, hf19, hf18, hf17, hf16, hf15, hf14, hf13, hf12, hf11]; decide +kernel
  have hP := va_row (f' := fun _ => iI (-1)) (k := 3) hP rfl hf
  have hD := hD.set (p := 3) (e := zC cA2 16 (fun _ => iI (-1))) rfl
  have hP : va_P D vwCl [(h0, jC q1 q3 q5 q7 q9), (q1, zC cA2 16 (fun _ => 0)), (q3, zC cA2 16 (fun _ => 0)), (q5, zC cA2 16 (fun _ => iI (-1))), (q7, zC cA2 16 (fun _ => 0)), (q9, zC cA2 5 (fun _ => 0))] H := hP
  have hD : va_D A [(h0, jC q1 q3 q5 q7 q9), (q1, zC cA2 16 (fun _ => 0)), (q3, zC cA2 16 (fun _ => 0)), (q5, zC cA2 16 (fun _ => iI (-1))), (q7, zC cA2 16 (fun _ => 0)), (q9, zC cA2 5 (fun _ => 0))] := hD
  exact W.vret hx hb hr (fun t ht hW9 => ⟨⟨(), rfl, trivial, q1, q3, q5, q7, q9, cA2, by rw [ht]; exact hP, va_K.moved hW9.alike hK, hD⟩, hS.F ht⟩) hS.2.2 dX2_init_64
set_option maxHeartbeats 20000000 in
set_option maxRecDepth 100000 in
theorem n_PrizeHouse (l : Launch) (D : va_G) (h0 sz : Nat) : Met l yX4_init (wc yX4_init cX4_init 2 none) ({ frames := 2, cells := 57, slots := 661, locals := 33 }) (va_Pc [.ref h0] (cS D sz [(h0, .inr (4, [.null, .null, .null, .int (iI 0), .int (iI 0), .int (iI 0), .null, .null, .int (iI 0), .int (iI 0), .int (iI 0), .int (iI 0), .int (iI 0), .int (iI 0), .int (iI 0), .int (iI 0), .int (iI 0), .int (iI 0), .null]))] [])) (va_Qv (fun (_ : Unit) => True) (fun _ t => ∃ (a : Nat → Nat) (cH cB cJ cI : ClassId), a 0 = h0 ∧ pj a ∧ (∀ k, k < 58 → a k = h0 ∨ sz ≤ a k) ∧ va_P D vwCl (pw a cH cB cJ cI m_g0 (fun _ => 0)) t.heap ∧ va_K D vwCl (pT cH cB cJ cI) t) (va_A [(h0, .inr (4, [.null, .null, .null, .int (iI 0), .int (iI 0), .int (iI 0), .null, .null, .int (iI 0), .int (iI 0), .int (iI 0), .int (iI 0), .int (iI 0), .int (iI 0), .int (iI 0), .int (iI 0), .int (iI 0), .int (iI 0), .null]))] sz)) 57 661 (va_A [(h0, .inr (4, [.null, .null, .null, .int (iI 0), .int (iI 0), .int (iI 0), .null, .null, .int (iI 0), .int (iI 0), .int (iI 0), .int (iI 0), .int (iI 0), .int (iI 0), .int (iI 0), .int (iI 0), .int (iI 0), .int (iI 0), .null]))] sz) := by
  refine Met.ofW (cc := cX4_init) (maxL := 2) (ret := none) (by decide +kernel) rfl ?_
  intro p e s m args below meth c s₁ B9 hml hv
  obtain ⟨rfl, hsz, hP, hK, hD0, hE⟩ := hv
  have hx := B9.exec
  have hb := B9.bytes
  have hr := B9.returns
  have hts := atoms_spec (ws := (wc yX4_init cX4_init 2 none)) B9.pre
  have hw : ∀ w ∈ wsL_law0, w.before [.ref h0].toArray s = true := fun w h => hts w (List.mem_cons_of_mem _ h)
  have hown : s.vm.findClass RX4 = some m.cls := findClass_of_methodNamed B9.named
  have hlocks := B9.notSynchronized
  have hin : meth.name = "<init>" := (name_of_methodNamed B9.named B9.method).1
  subst hsz
  have hD := hD0.self (sz := s.heap.size)
  generalize hAe : va_A [(h0, .inr (4, [.null, .null, .null, .int (iI 0), .int (iI 0), .int (iI 0), .null, .null, .int (iI 0), .int (iI 0), .int (iI 0), .int (iI 0), .int (iI 0), .int (iI 0), .int (iI 0), .int (iI 0), .int (iI 0), .int (iI 0), .null]))] s.heap.size = A at hD ⊢
  have hA : ∀ q : Nat, s.heap.size ≤ q → A q := fun q h => by rw [← hAe]; exact Or.inr h
  have hS : va_S A s.heap s.heap [] := va_S.rf
  have hl := lv_entry ([.ref h0]) (n := 2) (Nat.le_of_ble_eq_true rfl)
  rw [lg_entry_eq]
  generalize (lg_sl ([.ref h0]) ++ List.replicate (2 - (lg_sl ([.ref h0])).length) Slot.unset).toArray = ls at hl ⊢
  have hl : lv_has ls 2 [(0, .ref h0)] := hl
  suffices h9 : ∀ (H : Heap) (locs : List Loc), va_P D vwCl [(h0, .inr (4, [.null, .null, .null, .int (iI 0), .int (iI 0), .int (iI 0), .null, .null, .int (iI 0), .int (iI 0), .int (iI 0), .int (iI 0), .int (iI 0), .int (iI 0), .int (iI 0), .int (iI 0), .int (iI 0), .int (iI 0), .null]))] H → va_S A s.heap H locs → W p l e (headSpec (wc yX4_init cX4_init 2 none) ({ frames := 2, cells := 57, slots := 661, locals := 33 })).room s m [.ref h0].toArray below meth c H locs 0 0 (MQ below (va_Qv (fun (_ : Unit) => True) (fun _ t => ∃ (a : Nat → Nat) (cH cB cJ cI : ClassId), a 0 = h0 ∧ pj a ∧ (∀ k, k < 58 → a k = h0 ∨ s.heap.size ≤ a k) ∧ va_P D vwCl (pw a cH cB cJ cI m_g0 (fun _ => 0)) t.heap ∧ va_K D vwCl (pT cH cB cJ cI) t) A) [.ref h0].toArray s 57 661 A) (F0 m 0 ls []) from h9 s.heap [] hP hS
  clear hP hS
  intro H locs hP hS
  have hD : va_D A [(h0, .inr (4, [.null, .null, .null, .int (iI 0), .int (iI 0), .int (iI 0), .null, .null, .int (iI 0), .int (iI 0), .int (iI 0), .int (iI 0), .int (iI 0), .int (iI 0), .int (iI 0), .int (iI 0), .int (iI 0), .int (iI 0), .null]))] := hD
  refine lv_aload_n hx hb dX4_init_0 rfl (lv_at hl 0 rfl) ?_
  refine W.objInit hx hb hown (hw _ kw_11) (hw _ kw_12) (hw _ kw_13) rfl (by rw [hml]; exact hl.1) rfl dX4_init_1 (Nat.le_of_ble_eq_true rfl) (Nat.le_of_ble_eq_true rfl) ?_
  refine W.eq (g2 := F0 m 4 ls []) rfl ?_
  refine lv_aload_n hx hb dX4_init_4 rfl (lv_at hl 0 rfl) ?_
  refine lv_iconst (v := iI 5) hx hb dX4_init_5 (by decide) ?_
  refine va_newq (C := RX1) (N' := 5) hx hb hown (hw _ kw_14) hE.2.1 hK hP hD hS hA (by decide) (by decide) (Nat.le_of_ble_eq_true rfl) (Nat.le_of_ble_eq_true rfl) (Nat.le_of_ble_eq_true rfl) dX4_init_6 (fun q1 cA2 H hK hP hD hS => ?_)
  have hK : va_K D vwCl [(cA2, .object RX1)] s := hK
  have hP : va_P D vwCl [(h0, .inr (4, [.null, .null, .null, .int (iI 0), .int (iI 0), .int (iI 0), .null, .null, .int (iI 0), .int (iI 0), .int (iI 0), .int (iI 0), .int (iI 0), .int (iI 0), .int (iI 0), .int (iI 0), .int (iI 0), .int (iI 0), .null])), (q1, oC cA2 5 (fun _ => none))] H := hP
  have hD : va_D A [(h0, .inr (4, [.null, .null, .null, .int (iI 0), .int (iI 0), .int (iI 0), .null, .null, .int (iI 0), .int (iI 0), .int (iI 0), .int (iI 0), .int (iI 0), .int (iI 0), .int (iI 0), .int (iI 0), .int (iI 0), .int (iI 0), .null])), (q1, oC cA2 5 (fun _ => none))] := hD
  refine W.widen (k := 1) (n := 5) (Nat.le_of_ble_eq_true rfl) (Nat.le_of_ble_eq_true rfl) ?_
  refine va_putF (D := D) (ci := 4) (v := .ref q1) (C := RX4) (T := TX4) (N := 19) (ty := _) hx hb hw hin_wsX40 tyX4 tyX4_ok nmX4 hown hK hP hD hS 0 rfl rfl 0 (by decide) (hw _ kw_15) (fun _ h9 => h9) rfl hin rfl (tyX4_ok 0 (by decide)) rfl rfl (show 0 < 19 from by decide) dX4_init_9 (fun H locs hP hD hS => ?_)
  have hP : va_P D vwCl [(h0, .inr (4, [.ref q1, .null, .null, .int (iI 0), .int (iI 0), .int (iI 0), .null, .null, .int (iI 0), .int (iI 0), .int (iI 0), .int (iI 0), .int (iI 0), .int (iI 0), .int (iI 0), .int (iI 0), .int (iI 0), .int (iI 0), .null])), (q1, oC cA2 5 (fun _ => none))] H := hP
  have hD : va_D A [(h0, .inr (4, [.ref q1, .null, .null, .int (iI 0), .int (iI 0), .int (iI 0), .null, .null, .int (iI 0), .int (iI 0), .int (iI 0), .int (iI 0), .int (iI 0), .int (iI 0), .int (iI 0), .int (iI 0), .int (iI 0), .int (iI 0), .null])), (q1, oC cA2 5 (fun _ => none))] := hD
  refine lv_aload_n hx hb dX4_init_12 rfl (lv_at hl 0 rfl) ?_
  refine lv_bipush (v := iI 16) hx hb dX4_init_13 (by decide) ?_
  refine va_newq (C := RX0) (N' := 16) hx hb hown (hw _ kw_16) hE.2.2.1 hK hP hD hS hA (by decide) (by decide) (Nat.le_of_ble_eq_true rfl) (Nat.le_of_ble_eq_true rfl) (Nat.le_of_ble_eq_true rfl) dX4_init_15 (fun q3 cA4 H hK hP hD hS => ?_)
  have hK : va_K D vwCl [(cA2, .object RX1), (cA4, .object RX0)] s := hK
  have hP : va_P D vwCl [(h0, .inr (4, [.ref q1, .null, .null, .int (iI 0), .int (iI 0), .int (iI 0), .null, .null, .int (iI 0), .int (iI 0), .int (iI 0), .int (iI 0), .int (iI 0), .int (iI 0), .int (iI 0), .int (iI 0), .int (iI 0), .int (iI 0), .null])), (q1, oC cA2 5 (fun _ => none)), (q3, oC cA4 16 (fun _ => none))] H := hP
  have hD : va_D A [(h0, .inr (4, [.ref q1, .null, .null, .int (iI 0), .int (iI 0), .int (iI 0), .null, .null, .int (iI 0), .int (iI 0), .int (iI 0), .int (iI 0), .int (iI 0), .int (iI 0), .int (iI 0), .int (iI 0), .int (iI 0), .int (iI 0), .null])), (q1, oC cA2 5 (fun _ => none)), (q3, oC cA4 16 (fun _ => none))] := hD
  refine W.widen (k := 2) (n := 21) (Nat.le_of_ble_eq_true rfl) (Nat.le_of_ble_eq_true rfl) ?_
  refine va_putF (D := D) (ci := 4) (v := .ref q3) (C := RX4) (T := TX4) (N := 19) (ty := _) hx hb hw hin_wsX40 tyX4 tyX4_ok nmX4 hown hK hP hD hS 0 rfl rfl 1 (by decide) (hw _ kw_17) (fun _ h9 => h9) rfl hin rfl (tyX4_ok 1 (by decide)) rfl rfl (show 1 < 19 from by decide) dX4_init_18 (fun H locs hP hD hS => ?_)
  have hP : va_P D vwCl [(h0, .inr (4, [.ref q1, .ref q3, .null, .int (iI 0), .int (iI 0), .int (iI 0), .null, .null, .int (iI 0), .int (iI 0), .int (iI 0), .int (iI 0), .int (iI 0), .int (iI 0), .int (iI 0), .int (iI 0), .int (iI 0), .int (iI 0), .null])), (q1, oC cA2 5 (fun _ => none)), (q3, oC cA4 16 (fun _ => none))] H := hP
  have hD : va_D A [(h0, .inr (4, [.ref q1, .ref q3, .null, .int (iI 0), .int (iI 0), .int (iI 0), .null, .null, .int (iI 0), .int (iI 0), .int (iI 0), .int (iI 0), .int (iI 0), .int (iI 0), .int (iI 0), .int (iI 0), .int (iI 0), .int (iI 0), .null])), (q1, oC cA2 5 (fun _ => none)), (q3, oC cA4 16 (fun _ => none))] := hD
  refine lv_aload_n hx hb dX4_init_21 rfl (lv_at hl 0 rfl) ?_
  refine lv_iconst (v := iI 5) hx hb dX4_init_22 (by decide) ?_
  refine va_newq (C := RX2) (N' := 5) hx hb hown (hw _ kw_18) hE.2.2.2 hK hP hD hS hA (by decide) (by decide) (Nat.le_of_ble_eq_true rfl) (Nat.le_of_ble_eq_true rfl) (Nat.le_of_ble_eq_true rfl) dX4_init_23 (fun q5 cA6 H hK hP hD hS => ?_)
  have hK : va_K D vwCl [(cA2, .object RX1), (cA4, .object RX0), (cA6, .object RX2)] s := hK
  have hP : va_P D vwCl [(h0, .inr (4, [.ref q1, .ref q3, .null, .int (iI 0), .int (iI 0), .int (iI 0), .null, .null, .int (iI 0), .int (iI 0), .int (iI 0), .int (iI 0), .int (iI 0), .int (iI 0), .int (iI 0), .int (iI 0), .int (iI 0), .int (iI 0), .null])), (q1, oC cA2 5 (fun _ => none)), (q3, oC cA4 16 (fun _ => none)), (q5, oC cA6 5 (fun _ => none))] H := hP
  have hD : va_D A [(h0, .inr (4, [.ref q1, .ref q3, .null, .int (iI 0), .int (iI 0), .int (iI 0), .null, .null, .int (iI 0), .int (iI 0), .int (iI 0), .int (iI 0), .int (iI 0), .int (iI 0), .int (iI 0), .int (iI 0), .int (iI 0), .int (iI 0), .null])), (q1, oC cA2 5 (fun _ => none)), (q3, oC cA4 16 (fun _ => none)), (q5, oC cA6 5 (fun _ => none))] := hD
  refine W.widen (k := 3) (n := 26) (Nat.le_of_ble_eq_true rfl) (Nat.le_of_ble_eq_true rfl) ?_
  refine va_putF (D := D) (ci := 4) (v := .ref q5) (C := RX4) (T := TX4) (N := 19) (ty := _) hx hb hw hin_wsX40 tyX4 tyX4_ok nmX4 hown hK hP hD hS 0 rfl rfl 2 (by decide) (hw _ kw_19) (fun _ h9 => h9) rfl hin rfl (tyX4_ok 2 (by decide)) rfl rfl (show 2 < 19 from by decide) dX4_init_26 (fun H locs hP hD hS => ?_)
  have hP : va_P D vwCl [(h0, .inr (4, [.ref q1, .ref q3, .ref q5, .int (iI 0), .int (iI 0), .int (iI 0), .null, .null, .int (iI 0), .int (iI 0), .int (iI 0), .int (iI 0), .int (iI 0), .int (iI 0), .int (iI 0), .int (iI 0), .int (iI 0), .int (iI 0), .null])), (q1, oC cA2 5 (fun _ => none)), (q3, oC cA4 16 (fun _ => none)), (q5, oC cA6 5 (fun _ => none))] H := hP
  have hD : va_D A [(h0, .inr (4, [.ref q1, .ref q3, .ref q5, .int (iI 0), .int (iI 0), .int (iI 0), .null, .null, .int (iI 0), .int (iI 0), .int (iI 0), .int (iI 0), .int (iI 0), .int (iI 0), .int (iI 0), .int (iI 0), .int (iI 0), .int (iI 0), .null])), (q1, oC cA2 5 (fun _ => none)), (q3, oC cA4 16 (fun _ => none)), (q5, oC cA6 5 (fun _ => none))] := hD
  refine lv_aload_n hx hb dX4_init_29 rfl (lv_at hl 0 rfl) ?_
  refine va_new (ci := 3) (fs := [.int (iI 0), .int (iI 0), .int (iI 0), .int (iI 0)]) (C := RX3) (T := TX3) (N := 4) hx hb hw hin_wsX30 tyX3 tyX3_ok hown (hw _ kw_20) (hw _ kw_21) (hw _ kw_22) hK hP hD hS hA rfl (fun j hj => by rcases (show j = 0 ∨ j = 1 ∨ j = 2 ∨ j = 3 by omega) with rfl | rfl | rfl | rfl <;> rfl) (Nat.le_of_ble_eq_true rfl) (Nat.le_of_ble_eq_true rfl) dX4_init_30 (fun q7 H hP hD hS => ?_)
  have hP : va_P D vwCl [(h0, .inr (4, [.ref q1, .ref q3, .ref q5, .int (iI 0), .int (iI 0), .int (iI 0), .null, .null, .int (iI 0), .int (iI 0), .int (iI 0), .int (iI 0), .int (iI 0), .int (iI 0), .int (iI 0), .int (iI 0), .int (iI 0), .int (iI 0), .null])), (q1, oC cA2 5 (fun _ => none)), (q3, oC cA4 16 (fun _ => none)), (q5, oC cA6 5 (fun _ => none)), (q7, rC0)] H := hP
  have hD : va_D A [(h0, .inr (4, [.ref q1, .ref q3, .ref q5, .int (iI 0), .int (iI 0), .int (iI 0), .null, .null, .int (iI 0), .int (iI 0), .int (iI 0), .int (iI 0), .int (iI 0), .int (iI 0), .int (iI 0), .int (iI 0), .int (iI 0), .int (iI 0), .null])), (q1, oC cA2 5 (fun _ => none)), (q3, oC cA4 16 (fun _ => none)), (q5, oC cA6 5 (fun _ => none)), (q7, rC0)] := hD
  refine W.widen (k := 4) (n := 30) (Nat.le_of_ble_eq_true rfl) (Nat.le_of_ble_eq_true rfl) ?_
  refine lv_dup hx hb dX4_init_33 rfl ?_
  have hPc := hP.sub (ws' := [(q7, rC0)]) [4] rfl
  have hKc := hK.sub (tys' := []) [] rfl
  have hDc := hD.sub (ws' := [(q7, rC0)]) [4] (by decide) rfl
  have hFc := va_free (wc := [(q7, rC0)]) hD hS hA [4] rfl
  refine va_callv (va_runIN (As := []) (rest := [.ref q7, .ref h0]) ⟨hx, hb, hml, hown, hw⟩ (n_Rules l D q7 H.size) ⟨va_cnB 0 hw (gA_c kw_36) rfl rfl rfl hE.1.1 (hw _ kw_22) (by decide +kernel) ⟨Nat.le_of_ble_eq_true rfl, Nat.le_of_ble_eq_true rfl⟩, rfl, (hw _ kw_35)⟩ (cS_s (As := [.ref q7]) hPc hDc hKc hE) rfl rfl hl.1 rfl (lv_room (Nat.le_of_ble_eq_true rfl)) dX4_init_34 ⟨Nat.le_of_ble_eq_true rfl, Nat.le_of_ble_eq_true rfl⟩) hS (fun q _ h => hFc q h) hFc (fun u t H1 locs ht hvm hw9 hB9 hz1 hk1 hS => ?_)
  obtain ⟨hP1, hD1⟩ := hB9
  rw [ht] at hP1
  obtain ⟨hP, hD⟩ := va_join (wr := [(h0, .inr (4, [.ref q1, .ref q3, .ref q5, .int (iI 0), .int (iI 0), .int (iI 0), .null, .null, .int (iI 0), .int (iI 0), .int (iI 0), .int (iI 0), .int (iI 0), .int (iI 0), .int (iI 0), .int (iI 0), .int (iI 0), .int (iI 0), .null])), (q1, oC cA2 5 (fun _ => none)), (q3, oC cA4 16 (fun _ => none)), (q5, oC cA6 5 (fun _ => none))]) (w1 := [(q7, rC)]) hP hD [4] [0, 1, 2, 3] rfl rfl (by decide) (by decide) hk1 hFc hP1 hD1
  generalize H1 = H at hP hS ⊢
  have hP : va_P D vwCl [(h0, .inr (4, [.ref q1, .ref q3, .ref q5, .int (iI 0), .int (iI 0), .int (iI 0), .null, .null, .int (iI 0), .int (iI 0), .int (iI 0), .int (iI 0), .int (iI 0), .int (iI 0), .int (iI 0), .int (iI 0), .int (iI 0), .int (iI 0), .null])), (q1, oC cA2 5 (fun _ => none)), (q3, oC cA4 16 (fun _ => none)), (q5, oC cA6 5 (fun _ => none)), (q7, rC)] H := hP
  have hD : va_D A [(h0, .inr (4, [.ref q1, .ref q3, .ref q5, .int (iI 0), .int (iI 0), .int (iI 0), .null, .null, .int (iI 0), .int (iI 0), .int (iI 0), .int (iI 0), .int (iI 0), .int (iI 0), .int (iI 0), .int (iI 0), .int (iI 0), .int (iI 0), .null])), (q1, oC cA2 5 (fun _ => none)), (q3, oC cA4 16 (fun _ => none)), (q5, oC cA6 5 (fun _ => none)), (q7, rC)] := hD
  refine va_putF (D := D) (ci := 4) (v := .ref q7) (C := RX4) (T := TX4) (N := 19) (ty := _) hx hb hw hin_wsX40 tyX4 tyX4_ok nmX4 hown hK hP hD hS 0 rfl rfl 6 (by decide) (hw _ kw_23) (fun _ h9 => h9) rfl hin rfl (tyX4_ok 6 (by decide)) rfl rfl (show 6 < 19 from by decide) dX4_init_37 (fun H locs hP hD hS => ?_)
  have hP : va_P D vwCl [(h0, .inr (4, [.ref q1, .ref q3, .ref q5, .int (iI 0), .int (iI 0), .int (iI 0), .ref q7, .null, .int (iI 0), .int (iI 0), .int (iI 0), .int (iI 0), .int (iI 0), .int (iI 0), .int (iI 0), .int (iI 0), .int (iI 0), .int (iI 0), .null])), (q1, oC cA2 5 (fun _ => none)), (q3, oC cA4 16 (fun _ => none)), (q5, oC cA6 5 (fun _ => none)), (q7, rC)] H := hP
  have hD : va_D A [(h0, .inr (4, [.ref q1, .ref q3, .ref q5, .int (iI 0), .int (iI 0), .int (iI 0), .ref q7, .null, .int (iI 0), .int (iI 0), .int (iI 0), .int (iI 0), .int (iI 0), .int (iI 0), .int (iI 0), .int (iI 0), .int (iI 0), .int (iI 0), .null])), (q1, oC cA2 5 (fun _ => none)), (q3, oC cA4 16 (fun _ => none)), (q5, oC cA6 5 (fun _ => none)), (q7, rC)] := hD
  refine lv_aload_n hx hb dX4_init_40 rfl (lv_at hl 0 rfl) ?_
  refine va_new (ci := 3) (fs := [.int (iI 0), .int (iI 0), .int (iI 0), .int (iI 0)]) (C := RX3) (T := TX3) (N := 4) hx hb hw hin_wsX30 tyX3 tyX3_ok hown (hw _ kw_20) (hw _ kw_21) (hw _ kw_22) hK hP hD hS hA rfl (fun j hj => by rcases (show j = 0 ∨ j = 1 ∨ j = 2 ∨ j = 3 by omega) with rfl | rfl | rfl | rfl <;> rfl) (Nat.le_of_ble_eq_true rfl) (Nat.le_of_ble_eq_true rfl) dX4_init_41 (fun q8 H hP hD hS => ?_)
  have hP : va_P D vwCl [(h0, .inr (4, [.ref q1, .ref q3, .ref q5, .int (iI 0), .int (iI 0), .int (iI 0), .ref q7, .null, .int (iI 0), .int (iI 0), .int (iI 0), .int (iI 0), .int (iI 0), .int (iI 0), .int (iI 0), .int (iI 0), .int (iI 0), .int (iI 0), .null])), (q1, oC cA2 5 (fun _ => none)), (q3, oC cA4 16 (fun _ => none)), (q5, oC cA6 5 (fun _ => none)), (q7, rC), (q8, rC0)] H := hP
  have hD : va_D A [(h0, .inr (4, [.ref q1, .ref q3, .ref q5, .int (iI 0), .int (iI 0), .int (iI 0), .ref q7, .null, .int (iI 0), .int (iI 0), .int (iI 0), .int (iI 0), .int (iI 0), .int (iI 0), .int (iI 0), .int (iI 0), .int (iI 0), .int (iI 0), .null])), (q1, oC cA2 5 (fun _ => none)), (q3, oC cA4 16 (fun _ => none)), (q5, oC cA6 5 (fun _ => none)), (q7, rC), (q8, rC0)] := hD
  refine W.widen (k := 5) (n := 34) (Nat.le_of_ble_eq_true rfl) (Nat.le_of_ble_eq_true rfl) ?_
  refine lv_dup hx hb dX4_init_44 rfl ?_
  have hPc := hP.sub (ws' := [(q8, rC0)]) [5] rfl
  have hKc := hK.sub (tys' := []) [] rfl
  have hDc := hD.sub (ws' := [(q8, rC0)]) [5] (by decide) rfl
  have hFc := va_free (wc := [(q8, rC0)]) hD hS hA [5] rfl
  refine va_callv (va_runIN (As := []) (rest := [.ref q8, .ref h0]) ⟨hx, hb, hml, hown, hw⟩ (n_Rules l D q8 H.size) ⟨va_cnB 0 hw (gA_c kw_36) rfl rfl rfl hE.1.1 (hw _ kw_22) (by decide +kernel) ⟨Nat.le_of_ble_eq_true rfl, Nat.le_of_ble_eq_true rfl⟩, rfl, (hw _ kw_35)⟩ (cS_s (As := [.ref q8]) hPc hDc hKc hE) rfl rfl hl.1 rfl (lv_room (Nat.le_of_ble_eq_true rfl)) dX4_init_45 ⟨Nat.le_of_ble_eq_true rfl, Nat.le_of_ble_eq_true rfl⟩) hS (fun q _ h => hFc q h) hFc (fun u t H1 locs ht hvm hw9 hB9 hz1 hk1 hS => ?_)
  obtain ⟨hP1, hD1⟩ := hB9
  rw [ht] at hP1
  obtain ⟨hP, hD⟩ := va_join (wr := [(h0, .inr (4, [.ref q1, .ref q3, .ref q5, .int (iI 0), .int (iI 0), .int (iI 0), .ref q7, .null, .int (iI 0), .int (iI 0), .int (iI 0), .int (iI 0), .int (iI 0), .int (iI 0), .int (iI 0), .int (iI 0), .int (iI 0), .int (iI 0), .null])), (q1, oC cA2 5 (fun _ => none)), (q3, oC cA4 16 (fun _ => none)), (q5, oC cA6 5 (fun _ => none)), (q7, rC)]) (w1 := [(q8, rC)]) hP hD [5] [0, 1, 2, 3, 4] rfl rfl (by decide) (by decide) hk1 hFc hP1 hD1
  generalize H1 = H at hP hS ⊢
  have hP : va_P D vwCl [(h0, .inr (4, [.ref q1, .ref q3, .ref q5, .int (iI 0), .int (iI 0), .int (iI 0), .ref q7, .null, .int (iI 0), .int (iI 0), .int (iI 0), .int (iI 0), .int (iI 0), .int (iI 0), .int (iI 0), .int (iI 0), .int (iI 0), .int (iI 0), .null])), (q1, oC cA2 5 (fun _ => none)), (q3, oC cA4 16 (fun _ => none)), (q5, oC cA6 5 (fun _ => none)), (q7, rC), (q8, rC)] H := hP
  have hD : va_D A [(h0, .inr (4, [.ref q1, .ref q3, .ref q5, .int (iI 0), .int (iI 0), .int (iI 0), .ref q7, .null, .int (iI 0), .int (iI 0), .int (iI 0), .int (iI 0), .int (iI 0), .int (iI 0), .int (iI 0), .int (iI 0), .int (iI 0), .int (iI 0), .null])), (q1, oC cA2 5 (fun _ => none)), (q3, oC cA4 16 (fun _ => none)), (q5, oC cA6 5 (fun _ => none)), (q7, rC), (q8, rC)] := hD
  refine va_putF (D := D) (ci := 4) (v := .ref q8) (C := RX4) (T := TX4) (N := 19) (ty := _) hx hb hw hin_wsX40 tyX4 tyX4_ok nmX4 hown hK hP hD hS 0 rfl rfl 7 (by decide) (hw _ kw_24) (fun _ h9 => h9) rfl hin rfl (tyX4_ok 7 (by decide)) rfl rfl (show 7 < 19 from by decide) dX4_init_48 (fun H locs hP hD hS => ?_)
  have hP : va_P D vwCl [(h0, .inr (4, [.ref q1, .ref q3, .ref q5, .int (iI 0), .int (iI 0), .int (iI 0), .ref q7, .ref q8, .int (iI 0), .int (iI 0), .int (iI 0), .int (iI 0), .int (iI 0), .int (iI 0), .int (iI 0), .int (iI 0), .int (iI 0), .int (iI 0), .null])), (q1, oC cA2 5 (fun _ => none)), (q3, oC cA4 16 (fun _ => none)), (q5, oC cA6 5 (fun _ => none)), (q7, rC), (q8, rC)] H := hP
  have hD : va_D A [(h0, .inr (4, [.ref q1, .ref q3, .ref q5, .int (iI 0), .int (iI 0), .int (iI 0), .ref q7, .ref q8, .int (iI 0), .int (iI 0), .int (iI 0), .int (iI 0), .int (iI 0), .int (iI 0), .int (iI 0), .int (iI 0), .int (iI 0), .int (iI 0), .null])), (q1, oC cA2 5 (fun _ => none)), (q3, oC cA4 16 (fun _ => none)), (q5, oC cA6 5 (fun _ => none)), (q7, rC), (q8, rC)] := hD
  refine lv_aload_n hx hb dX4_init_51 rfl (lv_at hl 0 rfl) ?_
  refine lv_iconst (v := iI 0) hx hb dX4_init_52 (by decide) ?_
  refine va_put (D := D) (ci := 4) (v := .int (iI 0)) (C := RX4) (T := TX4) (N := 19) (ty := .int) hx hb hw hin_wsX40 tyX4 tyX4_ok nmX4 hown hK hP hD hS 0 rfl rfl 9 (by decide) (hw _ kw_25) (fun _ h9 => h9) rfl (tyX4_ok 9 (by decide)) rfl rfl (show 9 < 19 from by decide) dX4_init_53 (fun H locs hP hD hS => ?_)
  have hP : va_P D vwCl [(h0, .inr (4, [.ref q1, .ref q3, .ref q5, .int (iI 0), .int (iI 0), .int (iI 0), .ref q7, .ref q8, .int (iI 0), .int (iI 0), .int (iI 0), .int (iI 0), .int (iI 0), .int (iI 0), .int (iI 0), .int (iI 0), .int (iI 0), .int (iI 0), .null])), (q1, oC cA2 5 (fun _ => none)), (q3, oC cA4 16 (fun _ => none)), (q5, oC cA6 5 (fun _ => none)), (q7, rC), (q8, rC)] H := hP
  have hD : va_D A [(h0, .inr (4, [.ref q1, .ref q3, .ref q5, .int (iI 0), .int (iI 0), .int (iI 0), .ref q7, .ref q8, .int (iI 0), .int (iI 0), .int (iI 0), .int (iI 0), .int (iI 0), .int (iI 0), .int (iI 0), .int (iI 0), .int (iI 0), .int (iI 0), .null])), (q1, oC cA2 5 (fun _ => none)), (q3, oC cA4 16 (fun _ => none)), (q5, oC cA6 5 (fun _ => none)), (q7, rC), (q8, rC)] := hD
  refine lv_aload_n hx hb dX4_init_56 rfl (lv_at hl 0 rfl) ?_
  refine lv_iconst (v := iI (-1)) hx hb dX4_init_57 (by decide) ?_
  refine va_put (D := D) (ci := 4) (v := .int (iI (-1))) (C := RX4) (T := TX4) (N := 19) (ty := .int) hx hb hw hin_wsX40 tyX4 tyX4_ok nmX4 hown hK hP hD hS 0 rfl rfl 14 (by decide) (hw _ kw_26) (fun _ h9 => h9) rfl (tyX4_ok 14 (by decide)) rfl rfl (show 14 < 19 from by decide) dX4_init_58 (fun H locs hP hD hS => ?_)
  have hP : va_P D vwCl [(h0, .inr (4, [.ref q1, .ref q3, .ref q5, .int (iI 0), .int (iI 0), .int (iI 0), .ref q7, .ref q8, .int (iI 0), .int (iI 0), .int (iI 0), .int (iI 0), .int (iI 0), .int (iI 0), .int (iI (-1)), .int (iI 0), .int (iI 0), .int (iI 0), .null])), (q1, oC cA2 5 (fun _ => none)), (q3, oC cA4 16 (fun _ => none)), (q5, oC cA6 5 (fun _ => none)), (q7, rC), (q8, rC)] H := hP
  have hD : va_D A [(h0, .inr (4, [.ref q1, .ref q3, .ref q5, .int (iI 0), .int (iI 0), .int (iI 0), .ref q7, .ref q8, .int (iI 0), .int (iI 0), .int (iI 0), .int (iI 0), .int (iI 0), .int (iI 0), .int (iI (-1)), .int (iI 0), .int (iI 0), .int (iI 0), .null])), (q1, oC cA2 5 (fun _ => none)), (q3, oC cA4 16 (fun _ => none)), (q5, oC cA6 5 (fun _ => none)), (q7, rC), (q8, rC)] := hD
  refine lv_aload_n hx hb dX4_init_61 rfl (lv_at hl 0 rfl) ?_
  refine lv_iconst (v := iI (-1)) hx hb dX4_init_62 (by decide) ?_
  refine va_put (D := D) (ci := 4) (v := .int (iI (-1))) (C := RX4) (T := TX4) (N := 19) (ty := .int) hx hb hw hin_wsX40 tyX4 tyX4_ok nmX4 hown hK hP hD hS 0 rfl rfl 15 (by decide) (hw _ kw_27) (fun _ h9 => h9) rfl (tyX4_ok 15 (by decide)) rfl rfl (show 15 < 19 from by decide) dX4_init_63 (fun H locs hP hD hS => ?_)
  have hP : va_P D vwCl [(h0, .inr (4, [.ref q1, .ref q3, .ref q5, .int (iI 0), .int (iI 0), .int (iI 0), .ref q7, .ref q8, .int (iI 0), .int (iI 0), .int (iI 0), .int (iI 0), .int (iI 0), .int (iI 0), .int (iI (-1)), .int (iI (-1)), .int (iI 0), .int (iI 0), .null])), (q1, oC cA2 5 (fun _ => none)), (q3, oC cA4 16 (fun _ => none)), (q5, oC cA6 5 (fun _ => none)), (q7, rC), (q8, rC)] H := hP
  have hD : va_D A [(h0, .inr (4, [.ref q1, .ref q3, .ref q5, .int (iI 0), .int (iI 0), .int (iI 0), .ref q7, .ref q8, .int (iI 0), .int (iI 0), .int (iI 0), .int (iI 0), .int (iI 0), .int (iI 0), .int (iI (-1)), .int (iI (-1)), .int (iI 0), .int (iI 0), .null])), (q1, oC cA2 5 (fun _ => none)), (q3, oC cA4 16 (fun _ => none)), (q5, oC cA6 5 (fun _ => none)), (q7, rC), (q8, rC)] := hD
  refine lv_aload_n hx hb dX4_init_66 rfl (lv_at hl 0 rfl) ?_
  refine lv_bipush (v := iI 16) hx hb dX4_init_67 (by decide) ?_
  refine va_newa (atype := .int) (ty := .int) (N' := 16) (a0 := (16, (.inl (fun _ => 0)))) hx hb (hw _ kw_3) rfl hK hP hD hS hA (fun _ => rfl) (by decide) (by decide) (Nat.le_of_ble_eq_true rfl) (Nat.le_of_ble_eq_true rfl) (Nat.le_of_ble_eq_true rfl) dX4_init_69 (fun q9 cA10 H hK hP hD hS => ?_)
  have hK : va_K D vwCl [(cA2, .object RX1), (cA4, .object RX0), (cA6, .object RX2), (cA10, .int)] s := hK
  have hP : va_P D vwCl [(h0, .inr (4, [.ref q1, .ref q3, .ref q5, .int (iI 0), .int (iI 0), .int (iI 0), .ref q7, .ref q8, .int (iI 0), .int (iI 0), .int (iI 0), .int (iI 0), .int (iI 0), .int (iI 0), .int (iI (-1)), .int (iI (-1)), .int (iI 0), .int (iI 0), .null])), (q1, oC cA2 5 (fun _ => none)), (q3, oC cA4 16 (fun _ => none)), (q5, oC cA6 5 (fun _ => none)), (q7, rC), (q8, rC), (q9, zC cA10 16 (fun _ => 0))] H := hP
  have hD : va_D A [(h0, .inr (4, [.ref q1, .ref q3, .ref q5, .int (iI 0), .int (iI 0), .int (iI 0), .ref q7, .ref q8, .int (iI 0), .int (iI 0), .int (iI 0), .int (iI 0), .int (iI 0), .int (iI 0), .int (iI (-1)), .int (iI (-1)), .int (iI 0), .int (iI 0), .null])), (q1, oC cA2 5 (fun _ => none)), (q3, oC cA4 16 (fun _ => none)), (q5, oC cA6 5 (fun _ => none)), (q7, rC), (q8, rC), (q9, zC cA10 16 (fun _ => 0))] := hD
  refine W.widen (k := 6) (n := 50) (Nat.le_of_ble_eq_true rfl) (Nat.le_of_ble_eq_true rfl) ?_
  refine va_putF (D := D) (ci := 4) (v := .ref q9) (C := RX4) (T := TX4) (N := 19) (ty := _) hx hb hw hin_wsX40 tyX4 tyX4_ok nmX4 hown hK hP hD hS 0 rfl rfl 18 (by decide) (hw _ kw_28) (fun _ h9 => h9) rfl hin rfl (tyX4_ok 18 (by decide)) rfl rfl (show 18 < 19 from by decide) dX4_init_71 (fun H locs hP hD hS => ?_)
  have hP : va_P D vwCl [(h0, .inr (4, [.ref q1, .ref q3, .ref q5, .int (iI 0), .int (iI 0), .int (iI 0), .ref q7, .ref q8, .int (iI 0), .int (iI 0), .int (iI 0), .int (iI 0), .int (iI 0), .int (iI 0), .int (iI (-1)), .int (iI (-1)), .int (iI 0), .int (iI 0), .ref q9])), (q1, oC cA2 5 (fun _ => none)), (q3, oC cA4 16 (fun _ => none)), (q5, oC cA6 5 (fun _ => none)), (q7, rC), (q8, rC), (q9, zC cA10 16 (fun _ => 0))] H := hP
  have hD : va_D A [(h0, .inr (4, [.ref q1, .ref q3, .ref q5, .int (iI 0), .int (iI 0), .int (iI 0), .ref q7, .ref q8, .int (iI 0), .int (iI 0), .int (iI 0), .int (iI 0), .int (iI 0), .int (iI 0), .int (iI (-1)), .int (iI (-1)), .int (iI 0), .int (iI 0), .ref q9])), (q1, oC cA2 5 (fun _ => none)), (q3, oC cA4 16 (fun _ => none)), (q5, oC cA6 5 (fun _ => none)), (q7, rC), (q8, rC), (q9, zC cA10 16 (fun _ => 0))] := hD
  refine lv_iconst (v := iI 0) hx hb dX4_init_74 (by decide) ?_
  refine lv_istore_n (lv' := [(1, .int (iI 0)), (0, .ref h0)]) hx hb dX4_init_75 rfl hl (by decide) rfl (fun ls hl => ?_)
  refine lv_iload_n hx hb dX4_init_76 rfl (lv_at hl 0 rfl) ?_
  refine lv_iconst (v := iI 5) hx hb dX4_init_77 (by decide) ?_
  refine n_icmp_ge hx hb (by unfold RI; omega) (by unfold RI; omega) (tgt := 100) dX4_init_78 (by decide) (fun h => absurd h (by decide)) (fun _ => ?_)
  refine lv_aload_n hx hb dX4_init_81 rfl (lv_at hl 1 rfl) ?_
  refine va_get (D := D) (ci := 4) (v := .ref q1) (C := RX4) (T := TX4) (N := 19) hx hb hw hin_wsX40 hown hK hP 0 rfl rfl 0 (by decide) (hw _ kw_15) (fun _ h9 => h9) rfl dX4_init_82 ?_
  refine lv_iload_n hx hb dX4_init_85 rfl (lv_at hl 0 rfl) ?_
  refine va_new (ci := 1) (fs := [.int (iI 0), .int (iI 0)]) (C := RX1) (T := TX1) (N := 2) hx hb hw hin_wsX10 tyX1 tyX1_ok hown (hw _ kw_14) (hw _ kw_29) (hw _ kw_30) hK hP hD hS hA rfl (fun j hj => by rcases (show j = 0 ∨ j = 1 by omega) with rfl | rfl <;> rfl) (Nat.le_of_ble_eq_true rfl) (Nat.le_of_ble_eq_true rfl) dX4_init_86 (fun q11 H hP hD hS => ?_)
  have hP : va_P D vwCl [(h0, .inr (4, [.ref q1, .ref q3, .ref q5, .int (iI 0), .int (iI 0), .int (iI 0), .ref q7, .ref q8, .int (iI 0), .int (iI 0), .int (iI 0), .int (iI 0), .int (iI 0), .int (iI 0), .int (iI (-1)), .int (iI (-1)), .int (iI 0), .int (iI 0), .ref q9])), (q1, oC cA2 5 (fun _ => none)), (q3, oC cA4 16 (fun _ => none)), (q5, oC cA6 5 (fun _ => none)), (q7, rC), (q8, rC), (q9, zC cA10 16 (fun _ => 0)), (q11, hC0)] H := hP
  have hD : va_D A [(h0, .inr (4, [.ref q1, .ref q3, .ref q5, .int (iI 0), .int (iI 0), .int (iI 0), .ref q7, .ref q8, .int (iI 0), .int (iI 0), .int (iI 0), .int (iI 0), .int (iI 0), .int (iI 0), .int (iI (-1)), .int (iI (-1)), .int (iI 0), .int (iI 0), .ref q9])), (q1, oC cA2 5 (fun _ => none)), (q3, oC cA4 16 (fun _ => none)), (q5, oC cA6 5 (fun _ => none)), (q7, rC), (q8, rC), (q9, zC cA10 16 (fun _ => 0)), (q11, hC0)] := hD
  refine W.widen (k := 7) (n := 52) (Nat.le_of_ble_eq_true rfl) (Nat.le_of_ble_eq_true rfl) ?_
  refine lv_dup hx hb dX4_init_89 rfl ?_
  have hPc := hP.sub (ws' := [(q11, hC0)]) [7] rfl
  have hKc := hK.sub (tys' := []) [] rfl
  have hDc := hD.sub (ws' := [(q11, hC0)]) [7] (by decide) rfl
  have hFc := va_free (wc := [(q11, hC0)]) hD hS hA [7] rfl
  refine va_callv (va_runIN (As := []) (rest := [.ref q11, .int (iI 0), .ref q1]) ⟨hx, hb, hml, hown, hw⟩ (n_House l D q11 H.size) ⟨va_cnB 0 hw (gA_c kw_43) rfl rfl rfl hE.1.2.1 (hw _ kw_30) (by decide +kernel) ⟨Nat.le_of_ble_eq_true rfl, Nat.le_of_ble_eq_true rfl⟩, rfl, (hw _ kw_42)⟩ (cS_s (As := [.ref q11]) hPc hDc hKc hE) rfl rfl hl.1 rfl (lv_room (Nat.le_of_ble_eq_true rfl)) dX4_init_90 ⟨Nat.le_of_ble_eq_true rfl, Nat.le_of_ble_eq_true rfl⟩) hS (fun q _ h => hFc q h) hFc (fun u t H1 locs ht hvm hw9 hB9 hz1 hk1 hS => ?_)
  obtain ⟨hP1, hD1⟩ := hB9
  rw [ht] at hP1
  obtain ⟨hP, hD⟩ := va_join (wr := [(h0, .inr (4, [.ref q1, .ref q3, .ref q5, .int (iI 0), .int (iI 0), .int (iI 0), .ref q7, .ref q8, .int (iI 0), .int (iI 0), .int (iI 0), .int (iI 0), .int (iI 0), .int (iI 0), .int (iI (-1)), .int (iI (-1)), .int (iI 0), .int (iI 0), .ref q9])), (q1, oC cA2 5 (fun _ => none)), (q3, oC cA4 16 (fun _ => none)), (q5, oC cA6 5 (fun _ => none)), (q7, rC), (q8, rC), (q9, zC cA10 16 (fun _ => 0))]) (w1 := [(q11, hC)]) hP hD [7] [0, 1, 2, 3, 4, 5, 6] rfl rfl (by decide) (by decide) hk1 hFc hP1 hD1
  generalize H1 = H at hP hS ⊢
  have hP : va_P D vwCl [(h0, .inr (4, [.ref q1, .ref q3, .ref q5, .int (iI 0), .int (iI 0), .int (iI 0), .ref q7, .ref q8, .int (iI 0), .int (iI 0), .int (iI 0), .int (iI 0), .int (iI 0), .int (iI 0), .int (iI (-1)), .int (iI (-1)), .int (iI 0), .int (iI 0), .ref q9])), (q1, oC cA2 5 (fun _ => none)), (q3, oC cA4 16 (fun _ => none)), (q5, oC cA6 5 (fun _ => none)), (q7, rC), (q8, rC), (q9, zC cA10 16 (fun _ => 0)), (q11, hC)] H := hP
  have hD : va_D A [(h0, .inr (4, [.ref q1, .ref q3, .ref q5, .int (iI 0), .int (iI 0), .int (iI 0), .ref q7, .ref q8, .int (iI 0), .int (iI 0), .int (iI 0), .int (iI 0), .int (iI 0), .int (iI 0), .int (iI (-1)), .int (iI (-1)), .int (iI 0), .int (iI 0), .ref q9])), (q1, oC cA2 5 (fun _ => none)), (q3, oC cA4 16 (fun _ => none)), (q5, oC cA6 5 (fun _ => none)), (q7, rC), (q8, rC), (q9, zC cA10 16 (fun _ => 0)), (q11, hC)] := hD
  refine va_astq hx hb hK hP hD hS 1 0 7 1 rfl rfl rfl rfl (by unfold vp_in; decide +kernel) dX4_init_93 (fun H locs hP hD hS => ?_)
  obtain ⟨f12, hf12⟩ : ∃ f, f = va_up (fun _ => none) (Int32.toNatClampNeg (iI 0)) (some q11) := ⟨_, rfl⟩
  have hP : va_P D vwCl [(h0, .inr (4, [.ref q1, .ref q3, .ref q5, .int (iI 0), .int (iI 0), .int (iI 0), .ref q7, .ref q8, .int (iI 0), .int (iI 0), .int (iI 0), .int (iI 0), .int (iI 0), .int (iI 0), .int (iI (-1)), .int (iI (-1)), .int (iI 0), .int (iI 0), .ref q9])), (q1, oC cA2 5 (va_up (fun _ => none) (Int32.toNatClampNeg (iI 0)) (some q11))), (q3, oC cA4 16 (fun _ => none)), (q5, oC cA6 5 (fun _ => none)), (q7, rC), (q8, rC), (q9, zC cA10 16 (fun _ => 0)), (q11, hC)] H := hP
  have hD : va_D A [(h0, .inr (4, [.ref q1, .ref q3, .ref q5, .int (iI 0), .int (iI 0), .int (iI 0), .ref q7, .ref q8, .int (iI 0), .int (iI 0), .int (iI 0), .int (iI 0), .int (iI 0), .int (iI 0), .int (iI (-1)), .int (iI (-1)), .int (iI 0), .int (iI 0), .ref q9])), (q1, oC cA2 5 (va_up (fun _ => none) (Int32.toNatClampNeg (iI 0)) (some q11))), (q3, oC cA4 16 (fun _ => none)), (q5, oC cA6 5 (fun _ => none)), (q7, rC), (q8, rC), (q9, zC cA10 16 (fun _ => 0)), (q11, hC)] := hD
  rw [← hf12] at hP hD
  refine lv_iinc (v := iI 1) (lv' := [(1, .int (iI 1)), (0, .ref h0)]) hx hb dX4_init_94 hl (k := 0) rfl (by decide) (by decide) rfl (fun ls hl => ?_)
  refine lv_goto (tgt := 76) hx hb dX4_init_97 (by decide) ?_
  refine lv_iload_n hx hb dX4_init_76 rfl (lv_at hl 0 rfl) ?_
  refine lv_iconst (v := iI 5) hx hb dX4_init_77 (by decide) ?_
  refine n_icmp_ge hx hb (by unfold RI; omega) (by unfold RI; omega) (tgt := 100) dX4_init_78 (by decide) (fun h => absurd h (by decide)) (fun _ => ?_)
  refine lv_aload_n hx hb dX4_init_81 rfl (lv_at hl 1 rfl) ?_
  refine va_get (D := D) (ci := 4) (v := .ref q1) (C := RX4) (T := TX4) (N := 19) hx hb hw hin_wsX40 hown hK hP 0 rfl rfl 0 (by decide) (hw _ kw_15) (fun _ h9 => h9) rfl dX4_init_82 ?_
  refine lv_iload_n hx hb dX4_init_85 rfl (lv_at hl 0 rfl) ?_
  refine va_new (ci := 1) (fs := [.int (iI 0), .int (iI 0)]) (C := RX1) (T := TX1) (N := 2) hx hb hw hin_wsX10 tyX1 tyX1_ok hown (hw _ kw_14) (hw _ kw_29) (hw _ kw_30) hK hP hD hS hA rfl (fun j hj => by rcases (show j = 0 ∨ j = 1 by omega) with rfl | rfl <;> rfl) (Nat.le_of_ble_eq_true rfl) (Nat.le_of_ble_eq_true rfl) dX4_init_86 (fun q13 H hP hD hS => ?_)
  have hP : va_P D vwCl [(h0, .inr (4, [.ref q1, .ref q3, .ref q5, .int (iI 0), .int (iI 0), .int (iI 0), .ref q7, .ref q8, .int (iI 0), .int (iI 0), .int (iI 0), .int (iI 0), .int (iI 0), .int (iI 0), .int (iI (-1)), .int (iI (-1)), .int (iI 0), .int (iI 0), .ref q9])), (q1, oC cA2 5 f12), (q3, oC cA4 16 (fun _ => none)), (q5, oC cA6 5 (fun _ => none)), (q7, rC), (q8, rC), (q9, zC cA10 16 (fun _ => 0)), (q11, hC), (q13, hC0)] H := hP
  have hD : va_D A [(h0, .inr (4, [.ref q1, .ref q3, .ref q5, .int (iI 0), .int (iI 0), .int (iI 0), .ref q7, .ref q8, .int (iI 0), .int (iI 0), .int (iI 0), .int (iI 0), .int (iI 0), .int (iI 0), .int (iI (-1)), .int (iI (-1)), .int (iI 0), .int (iI 0), .ref q9])), (q1, oC cA2 5 f12), (q3, oC cA4 16 (fun _ => none)), (q5, oC cA6 5 (fun _ => none)), (q7, rC), (q8, rC), (q9, zC cA10 16 (fun _ => 0)), (q11, hC), (q13, hC0)] := hD
  refine W.widen (k := 8) (n := 54) (Nat.le_of_ble_eq_true rfl) (Nat.le_of_ble_eq_true rfl) ?_
  refine lv_dup hx hb dX4_init_89 rfl ?_
  have hPc := hP.sub (ws' := [(q13, hC0)]) [8] rfl
  have hKc := hK.sub (tys' := []) [] rfl
  have hDc := hD.sub (ws' := [(q13, hC0)]) [8] (by decide) rfl
  have hFc := va_free (wc := [(q13, hC0)]) hD hS hA [8] rfl
  refine va_callv (va_runIN (As := []) (rest := [.ref q13, .int (iI 1), .ref q1]) ⟨hx, hb, hml, hown, hw⟩ (n_House l D q13 H.size) ⟨va_cnB 0 hw (gA_c kw_43) rfl rfl rfl hE.1.2.1 (hw _ kw_30) (by decide +kernel) ⟨Nat.le_of_ble_eq_true rfl, Nat.le_of_ble_eq_true rfl⟩, rfl, (hw _ kw_42)⟩ (cS_s (As := [.ref q13]) hPc hDc hKc hE) rfl rfl hl.1 rfl (lv_room (Nat.le_of_ble_eq_true rfl)) dX4_init_90 ⟨Nat.le_of_ble_eq_true rfl, Nat.le_of_ble_eq_true rfl⟩) hS (fun q _ h => hFc q h) hFc (fun u t H1 locs ht hvm hw9 hB9 hz1 hk1 hS => ?_)
  obtain ⟨hP1, hD1⟩ := hB9
  rw [ht] at hP1
  obtain ⟨hP, hD⟩ := va_join (wr := [(h0, .inr (4, [.ref q1, .ref q3, .ref q5, .int (iI 0), .int (iI 0), .int (iI 0), .ref q7, .ref q8, .int (iI 0), .int (iI 0), .int (iI 0), .int (iI 0), .int (iI 0), .int (iI 0), .int (iI (-1)), .int (iI (-1)), .int (iI 0), .int (iI 0), .ref q9])), (q1, oC cA2 5 f12), (q3, oC cA4 16 (fun _ => none)), (q5, oC cA6 5 (fun _ => none)), (q7, rC), (q8, rC), (q9, zC cA10 16 (fun _ => 0)), (q11, hC)]) (w1 := [(q13, hC)]) hP hD [8] [0, 1, 2, 3, 4, 5, 6, 7] rfl rfl (by decide) (by decide) hk1 hFc hP1 hD1
  generalize H1 = H at hP hS ⊢
  have hP : va_P D vwCl [(h0, .inr (4, [.ref q1, .ref q3, .ref q5, .int (iI 0), .int (iI 0), .int (iI 0), .ref q7, .ref q8, .int (iI 0), .int (iI 0), .int (iI 0), .int (iI 0), .int (iI 0), .int (iI 0), .int (iI (-1)), .int (iI (-1)), .int (iI 0), .int (iI 0), .ref q9])), (q1, oC cA2 5 f12), (q3, oC cA4 16 (fun _ => none)), (q5, oC cA6 5 (fun _ => none)), (q7, rC), (q8, rC), (q9, zC cA10 16 (fun _ => 0)), (q11, hC), (q13, hC)] H := hP
  have hD : va_D A [(h0, .inr (4, [.ref q1, .ref q3, .ref q5, .int (iI 0), .int (iI 0), .int (iI 0), .ref q7, .ref q8, .int (iI 0), .int (iI 0), .int (iI 0), .int (iI 0), .int (iI 0), .int (iI 0), .int (iI (-1)), .int (iI (-1)), .int (iI 0), .int (iI 0), .ref q9])), (q1, oC cA2 5 f12), (q3, oC cA4 16 (fun _ => none)), (q5, oC cA6 5 (fun _ => none)), (q7, rC), (q8, rC), (q9, zC cA10 16 (fun _ => 0)), (q11, hC), (q13, hC)] := hD
  refine va_astq hx hb hK hP hD hS 1 0 8 1 rfl rfl rfl rfl (by unfold vp_in; decide +kernel) dX4_init_93 (fun H locs hP hD hS => ?_)
  obtain ⟨f14, hf14⟩ : ∃ f, f = va_up f12 (Int32.toNatClampNeg (iI 1)) (some q13) := ⟨_, rfl⟩
  have hP : va_P D vwCl [(h0, .inr (4, [.ref q1, .ref q3, .ref q5, .int (iI 0), .int (iI 0), .int (iI 0), .ref q7, .ref q8, .int (iI 0), .int (iI 0), .int (iI 0), .int (iI 0), .int (iI 0), .int (iI 0), .int (iI (-1)), .int (iI (-1)), .int (iI 0), .int (iI 0), .ref q9])), (q1, oC cA2 5 (va_up f12 (Int32.toNatClampNeg (iI 1)) (some q13))), (q3, oC cA4 16 (fun _ => none)), (q5, oC cA6 5 (fun _ => none)), (q7, rC), (q8, rC), (q9, zC cA10 16 (fun _ => 0)), (q11, hC), (q13, hC)] H := hP
  have hD : va_D A [(h0, .inr (4, [.ref q1, .ref q3, .ref q5, .int (iI 0), .int (iI 0), .int (iI 0), .ref q7, .ref q8, .int (iI 0), .int (iI 0), .int (iI 0), .int (iI 0), .int (iI 0), .int (iI 0), .int (iI (-1)), .int (iI (-1)), .int (iI 0), .int (iI 0), .ref q9])), (q1, oC cA2 5 (va_up f12 (Int32.toNatClampNeg (iI 1)) (some q13))), (q3, oC cA4 16 (fun _ => none)), (q5, oC cA6 5 (fun _ => none)), (q7, rC), (q8, rC), (q9, zC cA10 16 (fun _ => 0)), (q11, hC), (q13, hC)] := hD
  rw [← hf14] at hP hD
  refine lv_iinc (v := iI 2) (lv' := [(1, .int (iI 2)), (0, .ref h0)]) hx hb dX4_init_94 hl (k := 0) rfl (by decide) (by decide) rfl (fun ls hl => ?_)
  refine lv_goto (tgt := 76) hx hb dX4_init_97 (by decide) ?_
  refine lv_iload_n hx hb dX4_init_76 rfl (lv_at hl 0 rfl) ?_
  refine lv_iconst (v := iI 5) hx hb dX4_init_77 (by decide) ?_
  refine n_icmp_ge hx hb (by unfold RI; omega) (by unfold RI; omega) (tgt := 100) dX4_init_78 (by decide) (fun h => absurd h (by decide)) (fun _ => ?_)
  refine lv_aload_n hx hb dX4_init_81 rfl (lv_at hl 1 rfl) ?_
  refine va_get (D := D) (ci := 4) (v := .ref q1) (C := RX4) (T := TX4) (N := 19) hx hb hw hin_wsX40 hown hK hP 0 rfl rfl 0 (by decide) (hw _ kw_15) (fun _ h9 => h9) rfl dX4_init_82 ?_
  refine lv_iload_n hx hb dX4_init_85 rfl (lv_at hl 0 rfl) ?_
  refine va_new (ci := 1) (fs := [.int (iI 0), .int (iI 0)]) (C := RX1) (T := TX1) (N := 2) hx hb hw hin_wsX10 tyX1 tyX1_ok hown (hw _ kw_14) (hw _ kw_29) (hw _ kw_30) hK hP hD hS hA rfl (fun j hj => by rcases (show j = 0 ∨ j = 1 by omega) with rfl | rfl <;> rfl) (Nat.le_of_ble_eq_true rfl) (Nat.le_of_ble_eq_true rfl) dX4_init_86 (fun q15 H hP hD hS => ?_)
  have hP : va_P D vwCl [(h0, .inr (4, [.ref q1, .ref q3, .ref q5, .int (iI 0), .int (iI 0), .int (iI 0), .ref q7, .ref q8, .int (iI 0), .int (iI 0), .int (iI 0), .int (iI 0), .int (iI 0), .int (iI 0), .int (iI (-1)), .int (iI (-1)), .int (iI 0), .int (iI 0), .ref q9])), (q1, oC cA2 5 f14), (q3, oC cA4 16 (fun _ => none)), (q5, oC cA6 5 (fun _ => none)), (q7, rC), (q8, rC), (q9, zC cA10 16 (fun _ => 0)), (q11, hC), (q13, hC), (q15, hC0)] H := hP
  have hD : va_D A [(h0, .inr (4, [.ref q1, .ref q3, .ref q5, .int (iI 0), .int (iI 0), .int (iI 0), .ref q7, .ref q8, .int (iI 0), .int (iI 0), .int (iI 0), .int (iI 0), .int (iI 0), .int (iI 0), .int (iI (-1)), .int (iI (-1)), .int (iI 0), .int (iI 0), .ref q9])), (q1, oC cA2 5 f14), (q3, oC cA4 16 (fun _ => none)), (q5, oC cA6 5 (fun _ => none)), (q7, rC), (q8, rC), (q9, zC cA10 16 (fun _ => 0)), (q11, hC), (q13, hC), (q15, hC0)] := hD
  refine W.widen (k := 9) (n := 56) (Nat.le_of_ble_eq_true rfl) (Nat.le_of_ble_eq_true rfl) ?_
  refine lv_dup hx hb dX4_init_89 rfl ?_
  have hPc := hP.sub (ws' := [(q15, hC0)]) [9] rfl
  have hKc := hK.sub (tys' := []) [] rfl
  have hDc := hD.sub (ws' := [(q15, hC0)]) [9] (by decide) rfl
  have hFc := va_free (wc := [(q15, hC0)]) hD hS hA [9] rfl
  refine va_callv (va_runIN (As := []) (rest := [.ref q15, .int (iI 2), .ref q1]) ⟨hx, hb, hml, hown, hw⟩ (n_House l D q15 H.size) ⟨va_cnB 0 hw (gA_c kw_43) rfl rfl rfl hE.1.2.1 (hw _ kw_30) (by decide +kernel) ⟨Nat.le_of_ble_eq_true rfl, Nat.le_of_ble_eq_true rfl⟩, rfl, (hw _ kw_42)⟩ (cS_s (As := [.ref q15]) hPc hDc hKc hE) rfl rfl hl.1 rfl (lv_room (Nat.le_of_ble_eq_true rfl)) dX4_init_90 ⟨Nat.le_of_ble_eq_true rfl, Nat.le_of_ble_eq_true rfl⟩) hS (fun q _ h => hFc q h) hFc (fun u t H1 locs ht hvm hw9 hB9 hz1 hk1 hS => ?_)
  obtain ⟨hP1, hD1⟩ := hB9
  rw [ht] at hP1
  obtain ⟨hP, hD⟩ := va_join (wr := [(h0, .inr (4, [.ref q1, .ref q3, .ref q5, .int (iI 0), .int (iI 0), .int (iI 0), .ref q7, .ref q8, .int (iI 0), .int (iI 0), .int (iI 0), .int (iI 0), .int (iI 0), .int (iI 0), .int (iI (-1)), .int (iI (-1)), .int (iI 0), .int (iI 0), .ref q9])), (q1, oC cA2 5 f14), (q3, oC cA4 16 (fun _ => none)), (q5, oC cA6 5 (fun _ => none)), (q7, rC), (q8, rC), (q9, zC cA10 16 (fun _ => 0)), (q11, hC), (q13, hC)]) (w1 := [(q15, hC)]) hP hD [9] [0, 1, 2, 3, 4, 5, 6, 7, 8] rfl rfl (by decide) (by decide) hk1 hFc hP1 hD1
  generalize H1 = H at hP hS ⊢
  have hP : va_P D vwCl [(h0, .inr (4, [.ref q1, .ref q3, .ref q5, .int (iI 0), .int (iI 0), .int (iI 0), .ref q7, .ref q8, .int (iI 0), .int (iI 0), .int (iI 0), .int (iI 0), .int (iI 0), .int (iI 0), .int (iI (-1)), .int (iI (-1)), .int (iI 0), .int (iI 0), .ref q9])), (q1, oC cA2 5 f14), (q3, oC cA4 16 (fun _ => none)), (q5, oC cA6 5 (fun _ => none)), (q7, rC), (q8, rC), (q9, zC cA10 16 (fun _ => 0)), (q11, hC), (q13, hC), (q15, hC)] H := hP
  have hD : va_D A [(h0, .inr (4, [.ref q1, .ref q3, .ref q5, .int (iI 0), .int (iI 0), .int (iI 0), .ref q7, .ref q8, .int (iI 0), .int (iI 0), .int (iI 0), .int (iI 0), .int (iI 0), .int (iI 0), .int (iI (-1)), .int (iI (-1)), .int (iI 0), .int (iI 0), .ref q9])), (q1, oC cA2 5 f14), (q3, oC cA4 16 (fun _ => none)), (q5, oC cA6 5 (fun _ => none)), (q7, rC), (q8, rC), (q9, zC cA10 16 (fun _ => 0)), (q11, hC), (q13, hC), (q15, hC)] := hD
  refine va_astq hx hb hK hP hD hS 1 0 9 1 rfl rfl rfl rfl (by unfold vp_in; decide +kernel) dX4_init_93 (fun H locs hP hD hS => ?_)
  obtain ⟨f16, hf16⟩ : ∃ f, f = va_up f14 (Int32.toNatClampNeg (iI 2)) (some q15) := ⟨_, rfl⟩
  have hP : va_P D vwCl [(h0, .inr (4, [.ref q1, .ref q3, .ref q5, .int (iI 0), .int (iI 0), .int (iI 0), .ref q7, .ref q8, .int (iI 0), .int (iI 0), .int (iI 0), .int (iI 0), .int (iI 0), .int (iI 0), .int (iI (-1)), .int (iI (-1)), .int (iI 0), .int (iI 0), .ref q9])), (q1, oC cA2 5 (va_up f14 (Int32.toNatClampNeg (iI 2)) (some q15))), (q3, oC cA4 16 (fun _ => none)), (q5, oC cA6 5 (fun _ => none)), (q7, rC), (q8, rC), (q9, zC cA10 16 (fun _ => 0)), (q11, hC), (q13, hC), (q15, hC)] H := hP
  have hD : va_D A [(h0, .inr (4, [.ref q1, .ref q3, .ref q5, .int (iI 0), .int (iI 0), .int (iI 0), .ref q7, .ref q8, .int (iI 0), .int (iI 0), .int (iI 0), .int (iI 0), .int (iI 0), .int (iI 0), .int (iI (-1)), .int (iI (-1)), .int (iI 0), .int (iI 0), .ref q9])), (q1, oC cA2 5 (va_up f14 (Int32.toNatClampNeg (iI 2)) (some q15))), (q3, oC cA4 16 (fun _ => none)), (q5, oC cA6 5 (fun _ => none)), (q7, rC), (q8, rC), (q9, zC cA10 16 (fun _ => 0)), (q11, hC), (q13, hC), (q15, hC)] := hD
  rw [← hf16] at hP hD
  refine lv_iinc (v := iI 3) (lv' := [(1, .int (iI 3)), (0, .ref h0)]) hx hb dX4_init_94 hl (k := 0) rfl (by decide) (by decide) rfl (fun ls hl => ?_)
  refine lv_goto (tgt := 76) hx hb dX4_init_97 (by decide) ?_
  refine lv_iload_n hx hb dX4_init_76 rfl (lv_at hl 0 rfl) ?_
  refine lv_iconst (v := iI 5) hx hb dX4_init_77 (by decide) ?_
  refine n_icmp_ge hx hb (by unfold RI; omega) (by unfold RI; omega) (tgt := 100) dX4_init_78 (by decide) (fun h => absurd h (by decide)) (fun _ => ?_)
  refine lv_aload_n hx hb dX4_init_81 rfl (lv_at hl 1 rfl) ?_
  refine va_get (D := D) (ci := 4) (v := .ref q1) (C := RX4) (T := TX4) (N := 19) hx hb hw hin_wsX40 hown hK hP 0 rfl rfl 0 (by decide) (hw _ kw_15) (fun _ h9 => h9) rfl dX4_init_82 ?_
  refine lv_iload_n hx hb dX4_init_85 rfl (lv_at hl 0 rfl) ?_
  refine va_new (ci := 1) (fs := [.int (iI 0), .int (iI 0)]) (C := RX1) (T := TX1) (N := 2) hx hb hw hin_wsX10 tyX1 tyX1_ok hown (hw _ kw_14) (hw _ kw_29) (hw _ kw_30) hK hP hD hS hA rfl (fun j hj => by rcases (show j = 0 ∨ j = 1 by omega) with rfl | rfl <;> rfl) (Nat.le_of_ble_eq_true rfl) (Nat.le_of_ble_eq_true rfl) dX4_init_86 (fun q17 H hP hD hS => ?_)
  have hP : va_P D vwCl [(h0, .inr (4, [.ref q1, .ref q3, .ref q5, .int (iI 0), .int (iI 0), .int (iI 0), .ref q7, .ref q8, .int (iI 0), .int (iI 0), .int (iI 0), .int (iI 0), .int (iI 0), .int (iI 0), .int (iI (-1)), .int (iI (-1)), .int (iI 0), .int (iI 0), .ref q9])), (q1, oC cA2 5 f16), (q3, oC cA4 16 (fun _ => none)), (q5, oC cA6 5 (fun _ => none)), (q7, rC), (q8, rC), (q9, zC cA10 16 (fun _ => 0)), (q11, hC), (q13, hC), (q15, hC), (q17, hC0)] H := hP
  have hD : va_D A [(h0, .inr (4, [.ref q1, .ref q3, .ref q5, .int (iI 0), .int (iI 0), .int (iI 0), .ref q7, .ref q8, .int (iI 0), .int (iI 0), .int (iI 0), .int (iI 0), .int (iI 0), .int (iI 0), .int (iI (-1)), .int (iI (-1)), .int (iI 0), .int (iI 0), .ref q9])), (q1, oC cA2 5 f16), (q3, oC cA4 16 (fun _ => none)), (q5, oC cA6 5 (fun _ => none)), (q7, rC), (q8, rC), (q9, zC cA10 16 (fun _ => 0)), (q11, hC), (q13, hC), (q15, hC), (q17, hC0)] := hD
  refine W.widen (k := 10) (n := 58) (Nat.le_of_ble_eq_true rfl) (Nat.le_of_ble_eq_true rfl) ?_
  refine lv_dup hx hb dX4_init_89 rfl ?_
  have hPc := hP.sub (ws' := [(q17, hC0)]) [10] rfl
  have hKc := hK.sub (tys' := []) [] rfl
  have hDc := hD.sub (ws' := [(q17, hC0)]) [10] (by decide) rfl
  have hFc := va_free (wc := [(q17, hC0)]) hD hS hA [10] rfl
  refine va_callv (va_runIN (As := []) (rest := [.ref q17, .int (iI 3), .ref q1]) ⟨hx, hb, hml, hown, hw⟩ (n_House l D q17 H.size) ⟨va_cnB 0 hw (gA_c kw_43) rfl rfl rfl hE.1.2.1 (hw _ kw_30) (by decide +kernel) ⟨Nat.le_of_ble_eq_true rfl, Nat.le_of_ble_eq_true rfl⟩, rfl, (hw _ kw_42)⟩ (cS_s (As := [.ref q17]) hPc hDc hKc hE) rfl rfl hl.1 rfl (lv_room (Nat.le_of_ble_eq_true rfl)) dX4_init_90 ⟨Nat.le_of_ble_eq_true rfl, Nat.le_of_ble_eq_true rfl⟩) hS (fun q _ h => hFc q h) hFc (fun u t H1 locs ht hvm hw9 hB9 hz1 hk1 hS => ?_)
  obtain ⟨hP1, hD1⟩ := hB9
  rw [ht] at hP1
  obtain ⟨hP, hD⟩ := va_join (wr := [(h0, .inr (4, [.ref q1, .ref q3, .ref q5, .int (iI 0), .int (iI 0), .int (iI 0), .ref q7, .ref q8, .int (iI 0), .int (iI 0), .int (iI 0), .int (iI 0), .int (iI 0), .int (iI 0), .int (iI (-1)), .int (iI (-1)), .int (iI 0), .int (iI 0), .ref q9])), (q1, oC cA2 5 f16), (q3, oC cA4 16 (fun _ => none)), (q5, oC cA6 5 (fun _ => none)), (q7, rC), (q8, rC), (q9, zC cA10 16 (fun _ => 0)), (q11, hC), (q13, hC), (q15, hC)]) (w1 := [(q17, hC)]) hP hD [10] [0, 1, 2, 3, 4, 5, 6, 7, 8, 9] rfl rfl (by decide) (by decide) hk1 hFc hP1 hD1
  generalize H1 = H at hP hS ⊢
  have hP : va_P D vwCl [(h0, .inr (4, [.ref q1, .ref q3, .ref q5, .int (iI 0), .int (iI 0), .int (iI 0), .ref q7, .ref q8, .int (iI 0), .int (iI 0), .int (iI 0), .int (iI 0), .int (iI 0), .int (iI 0), .int (iI (-1)), .int (iI (-1)), .int (iI 0), .int (iI 0), .ref q9])), (q1, oC cA2 5 f16), (q3, oC cA4 16 (fun _ => none)), (q5, oC cA6 5 (fun _ => none)), (q7, rC), (q8, rC), (q9, zC cA10 16 (fun _ => 0)), (q11, hC), (q13, hC), (q15, hC), (q17, hC)] H := hP
  have hD : va_D A [(h0, .inr (4, [.ref q1, .ref q3, .ref q5, .int (iI 0), .int (iI 0), .int (iI 0), .ref q7, .ref q8, .int (iI 0), .int (iI 0), .int (iI 0), .int (iI 0), .int (iI 0), .int (iI 0), .int (iI (-1)), .int (iI (-1)), .int (iI 0), .int (iI 0), .ref q9])), (q1, oC cA2 5 f16), (q3, oC cA4 16 (fun _ => none)), (q5, oC cA6 5 (fun _ => none)), (q7, rC), (q8, rC), (q9, zC cA10 16 (fun _ => 0)), (q11, hC), (q13, hC), (q15, hC), (q17, hC)] := hD
  refine va_astq hx hb hK hP hD hS 1 0 10 1 rfl rfl rfl rfl (by unfold vp_in; decide +kernel) dX4_init_93 (fun H locs hP hD hS => ?_)
  obtain ⟨f18, hf18⟩ : ∃ f, f = va_up f16 (Int32.toNatClampNeg (iI 3)) (some q17) := ⟨_, rfl⟩
  have hP : va_P D vwCl [(h0, .inr (4, [.ref q1, .ref q3, .ref q5, .int (iI 0), .int (iI 0), .int (iI 0), .ref q7, .ref q8, .int (iI 0), .int (iI 0), .int (iI 0), .int (iI 0), .int (iI 0), .int (iI 0), .int (iI (-1)), .int (iI (-1)), .int (iI 0), .int (iI 0), .ref q9])), (q1, oC cA2 5 (va_up f16 (Int32.toNatClampNeg (iI 3)) (some q17))), (q3, oC cA4 16 (fun _ => none)), (q5, oC cA6 5 (fun _ => none)), (q7, rC), (q8, rC), (q9, zC cA10 16 (fun _ => 0)), (q11, hC), (q13, hC), (q15, hC), (q17, hC)] H := hP
  have hD : va_D A [(h0, .inr (4, [.ref q1, .ref q3, .ref q5, .int (iI 0), .int (iI 0), .int (iI 0), .ref q7, .ref q8, .int (iI 0), .int (iI 0), .int (iI 0), .int (iI 0), .int (iI 0), .int (iI 0), .int (iI (-1)), .int (iI (-1)), .int (iI 0), .int (iI 0), .ref q9])), (q1, oC cA2 5 (va_up f16 (Int32.toNatClampNeg (iI 3)) (some q17))), (q3, oC cA4 16 (fun _ => none)), (q5, oC cA6 5 (fun _ => none)), (q7, rC), (q8, rC), (q9, zC cA10 16 (fun _ => 0)), (q11, hC), (q13, hC), (q15, hC), (q17, hC)] := hD
  rw [← hf18] at hP hD
  refine lv_iinc (v := iI 4) (lv' := [(1, .int (iI 4)), (0, .ref h0)]) hx hb dX4_init_94 hl (k := 0) rfl (by decide) (by decide) rfl (fun ls hl => ?_)
  refine lv_goto (tgt := 76) hx hb dX4_init_97 (by decide) ?_
  refine lv_iload_n hx hb dX4_init_76 rfl (lv_at hl 0 rfl) ?_
  refine lv_iconst (v := iI 5) hx hb dX4_init_77 (by decide) ?_
  refine n_icmp_ge hx hb (by unfold RI; omega) (by unfold RI; omega) (tgt := 100) dX4_init_78 (by decide) (fun h => absurd h (by decide)) (fun _ => ?_)
  refine lv_aload_n hx hb dX4_init_81 rfl (lv_at hl 1 rfl) ?_
  refine va_get (D := D) (ci := 4) (v := .ref q1) (C := RX4) (T := TX4) (N := 19) hx hb hw hin_wsX40 hown hK hP 0 rfl rfl 0 (by decide) (hw _ kw_15) (fun _ h9 => h9) rfl dX4_init_82 ?_
  refine lv_iload_n hx hb dX4_init_85 rfl (lv_at hl 0 rfl) ?_
  refine va_new (ci := 1) (fs := [.int (iI 0), .int (iI 0)]) (C := RX1) (T := TX1) (N := 2) hx hb hw hin_wsX10 tyX1 tyX1_ok hown (hw _ kw_14) (hw _ kw_29) (hw _ kw_30) hK hP hD hS hA rfl (fun j hj => by rcases (show j = 0 ∨ j = 1 by omega) with rfl | rfl <;> rfl) (Nat.le_of_ble_eq_true rfl) (Nat.le_of_ble_eq_true rfl) dX4_init_86 (fun q19 H hP hD hS => ?_)
  have hP : va_P D vwCl [(h0, .inr (4, [.ref q1, .ref q3, .ref q5, .int (iI 0), .int (iI 0), .int (iI 0), .ref q7, .ref q8, .int (iI 0), .int (iI 0), .int (iI 0), .int (iI 0), .int (iI 0), .int (iI 0), .int (iI (-1)), .int (iI (-1)), .int (iI 0), .int (iI 0), .ref q9])), (q1, oC cA2 5 f18), (q3, oC cA4 16 (fun _ => none)), (q5, oC cA6 5 (fun _ => none)), (q7, rC), (q8, rC), (q9, zC cA10 16 (fun _ => 0)), (q11, hC), (q13, hC), (q15, hC), (q17, hC), (q19, hC0)] H := hP
  have hD : va_D A [(h0, .inr (4, [.ref q1, .ref q3, .ref q5, .int (iI 0), .int (iI 0), .int (iI 0), .ref q7, .ref q8, .int (iI 0), .int (iI 0), .int (iI 0), .int (iI 0), .int (iI 0), .int (iI 0), .int (iI (-1)), .int (iI (-1)), .int (iI 0), .int (iI 0), .ref q9])), (q1, oC cA2 5 f18), (q3, oC cA4 16 (fun _ => none)), (q5, oC cA6 5 (fun _ => none)), (q7, rC), (q8, rC), (q9, zC cA10 16 (fun _ => 0)), (q11, hC), (q13, hC), (q15, hC), (q17, hC), (q19, hC0)] := hD
  refine W.widen (k := 11) (n := 60) (Nat.le_of_ble_eq_true rfl) (Nat.le_of_ble_eq_true rfl) ?_
  refine lv_dup hx hb dX4_init_89 rfl ?_
  have hPc := hP.sub (ws' := [(q19, hC0)]) [11] rfl
  have hKc := hK.sub (tys' := []) [] rfl
  have hDc := hD.sub (ws' := [(q19, hC0)]) [11] (by decide) rfl
  have hFc := va_free (wc := [(q19, hC0)]) hD hS hA [11] rfl
  refine va_callv (va_runIN (As := []) (rest := [.ref q19, .int (iI 4), .ref q1]) ⟨hx, hb, hml, hown, hw⟩ (n_House l D q19 H.size) ⟨va_cnB 0 hw (gA_c kw_43) rfl rfl rfl hE.1.2.1 (hw _ kw_30) (by decide +kernel) ⟨Nat.le_of_ble_eq_true rfl, Nat.le_of_ble_eq_true rfl⟩, rfl, (hw _ kw_42)⟩ (cS_s (As := [.ref q19]) hPc hDc hKc hE) rfl rfl hl.1 rfl (lv_room (Nat.le_of_ble_eq_true rfl)) dX4_init_90 ⟨Nat.le_of_ble_eq_true rfl, Nat.le_of_ble_eq_true rfl⟩) hS (fun q _ h => hFc q h) hFc (fun u t H1 locs ht hvm hw9 hB9 hz1 hk1 hS => ?_)
  obtain ⟨hP1, hD1⟩ := hB9
  rw [ht] at hP1
  obtain ⟨hP, hD⟩ := va_join (wr := [(h0, .inr (4, [.ref q1, .ref q3, .ref q5, .int (iI 0), .int (iI 0), .int (iI 0), .ref q7, .ref q8, .int (iI 0), .int (iI 0), .int (iI 0), .int (iI 0), .int (iI 0), .int (iI 0), .int (iI (-1)), .int (iI (-1)), .int (iI 0), .int (iI 0), .ref q9])), (q1, oC cA2 5 f18), (q3, oC cA4 16 (fun _ => none)), (q5, oC cA6 5 (fun _ => none)), (q7, rC), (q8, rC), (q9, zC cA10 16 (fun _ => 0)), (q11, hC), (q13, hC), (q15, hC), (q17, hC)]) (w1 := [(q19, hC)]) hP hD [11] [0, 1, 2, 3, 4, 5, 6, 7, 8, 9, 10] rfl rfl (by decide) (by decide) hk1 hFc hP1 hD1
  generalize H1 = H at hP hS ⊢
  have hP : va_P D vwCl [(h0, .inr (4, [.ref q1, .ref q3, .ref q5, .int (iI 0), .int (iI 0), .int (iI 0), .ref q7, .ref q8, .int (iI 0), .int (iI 0), .int (iI 0), .int (iI 0), .int (iI 0), .int (iI 0), .int (iI (-1)), .int (iI (-1)), .int (iI 0), .int (iI 0), .ref q9])), (q1, oC cA2 5 f18), (q3, oC cA4 16 (fun _ => none)), (q5, oC cA6 5 (fun _ => none)), (q7, rC), (q8, rC), (q9, zC cA10 16 (fun _ => 0)), (q11, hC), (q13, hC), (q15, hC), (q17, hC), (q19, hC)] H := hP
  have hD : va_D A [(h0, .inr (4, [.ref q1, .ref q3, .ref q5, .int (iI 0), .int (iI 0), .int (iI 0), .ref q7, .ref q8, .int (iI 0), .int (iI 0), .int (iI 0), .int (iI 0), .int (iI 0), .int (iI 0), .int (iI (-1)), .int (iI (-1)), .int (iI 0), .int (iI 0), .ref q9])), (q1, oC cA2 5 f18), (q3, oC cA4 16 (fun _ => none)), (q5, oC cA6 5 (fun _ => none)), (q7, rC), (q8, rC), (q9, zC cA10 16 (fun _ => 0)), (q11, hC), (q13, hC), (q15, hC), (q17, hC), (q19, hC)] := hD
  refine va_astq hx hb hK hP hD hS 1 0 11 1 rfl rfl rfl rfl (by unfold vp_in; decide +kernel) dX4_init_93 (fun H locs hP hD hS => ?_)
  obtain ⟨f20, hf20⟩ : ∃ f, f = va_up f18 (Int32.toNatClampNeg (iI 4)) (some q19) := ⟨_, rfl⟩
  have hP : va_P D vwCl [(h0, .inr (4, [.ref q1, .ref q3, .ref q5, .int (iI 0), .int (iI 0), .int (iI 0), .ref q7, .ref q8, .int (iI 0), .int (iI 0), .int (iI 0), .int (iI 0), .int (iI 0), .int (iI 0), .int (iI (-1)), .int (iI (-1)), .int (iI 0), .int (iI 0), .ref q9])), (q1, oC cA2 5 (va_up f18 (Int32.toNatClampNeg (iI 4)) (some q19))), (q3, oC cA4 16 (fun _ => none)), (q5, oC cA6 5 (fun _ => none)), (q7, rC), (q8, rC), (q9, zC cA10 16 (fun _ => 0)), (q11, hC), (q13, hC), (q15, hC), (q17, hC), (q19, hC)] H := hP
  have hD : va_D A [(h0, .inr (4, [.ref q1, .ref q3, .ref q5, .int (iI 0), .int (iI 0), .int (iI 0), .ref q7, .ref q8, .int (iI 0), .int (iI 0), .int (iI 0), .int (iI 0), .int (iI 0), .int (iI 0), .int (iI (-1)), .int (iI (-1)), .int (iI 0), .int (iI 0), .ref q9])), (q1, oC cA2 5 (va_up f18 (Int32.toNatClampNeg (iI 4)) (some q19))), (q3, oC cA4 16 (fun _ => none)), (q5, oC cA6 5 (fun _ => none)), (q7, rC), (q8, rC), (q9, zC cA10 16 (fun _ => 0)), (q11, hC), (q13, hC), (q15, hC), (q17, hC), (q19, hC)] := hD
  rw [← hf20] at hP hD
  refine lv_iinc (v := iI 5) (lv' := [(1, .int (iI 5)), (0, .ref h0)]) hx hb dX4_init_94 hl (k := 0) rfl (by decide) (by decide) rfl (fun ls hl => ?_)
  refine lv_goto (tgt := 76) hx hb dX4_init_97 (by decide) ?_
  refine lv_iload_n hx hb dX4_init_76 rfl (lv_at hl 0 rfl) ?_
  refine lv_iconst (v := iI 5) hx hb dX4_init_77 (by decide) ?_
  refine n_icmp_ge hx hb (by unfold RI; omega) (by unfold RI; omega) (tgt := 100) dX4_init_78 (by decide) (fun _ => ?_) (fun h => absurd h (by decide))
  refine lv_iconst (v := iI 0) hx hb dX4_init_100 (by decide) ?_
  refine lv_istore_n (lv' := [(1, .int (iI 0)), (0, .ref h0)]) hx hb dX4_init_101 rfl hl (by decide) rfl (fun ls hl => ?_)
  refine lv_iload_n hx hb dX4_init_102 rfl (lv_at hl 0 rfl) ?_
  refine lv_bipush (v := iI 16) hx hb dX4_init_103 (by decide) ?_
  refine n_icmp_ge hx hb (by unfold RI; omega) (by unfold RI; omega) (tgt := 127) dX4_init_105 (by decide) (fun h => absurd h (by decide)) (fun _ => ?_)
  refine lv_aload_n hx hb dX4_init_108 rfl (lv_at hl 1 rfl) ?_
  refine va_get (D := D) (ci := 4) (v := .ref q3) (C := RX4) (T := TX4) (N := 19) hx hb hw hin_wsX40 hown hK hP 0 rfl rfl 1 (by decide) (hw _ kw_17) (fun _ h9 => h9) rfl dX4_init_109 ?_
  refine lv_iload_n hx hb dX4_init_112 rfl (lv_at hl 0 rfl) ?_
  refine va_new (ci := 0) (fs := [.int (iI 0), .int (iI 0), .int (iI 0), .int (iI 0), .int (iI 0), .int (iI 0), .int (iI 0), .int (iI 0), .int (iI 0), .int (iI 0), .int (iI 0)]) (C := RX0) (T := TX0) (N := 11) hx hb hw hin_wsX00 tyX0 tyX0_ok hown (hw _ kw_16) (hw _ kw_31) (hw _ kw_32) hK hP hD hS hA rfl (fun j hj => by rcases (show j = 0 ∨ j = 1 ∨ j = 2 ∨ j = 3 ∨ j = 4 ∨ j = 5 ∨ j = 6 ∨ j = 7 ∨ j = 8 ∨ j = 9 ∨ j = 10 by omega) with rfl | rfl | rfl | rfl | rfl | rfl | rfl | rfl | rfl | rfl | rfl <;> rfl) (Nat.le_of_ble_eq_true rfl) (Nat.le_of_ble_eq_true rfl) dX4_init_113 (fun q21 H hP hD hS => ?_)
  have hP : va_P D vwCl [(h0, .inr (4, [.ref q1, .ref q3, .ref q5, .int (iI 0), .int (iI 0), .int (iI 0), .ref q7, .ref q8, .int (iI 0), .int (iI 0), .int (iI 0), .int (iI 0), .int (iI 0), .int (iI 0), .int (iI (-1)), .int (iI (-1)), .int (iI 0), .int (iI 0), .ref q9])), (q1, oC cA2 5 f20), (q3, oC cA4 16 (fun _ => none)), (q5, oC cA6 5 (fun _ => none)), (q7, rC), (q8, rC), (q9, zC cA10 16 (fun _ => 0)), (q11, hC), (q13, hC), (q15, hC), (q17, hC), (q19, hC), (q21, bC0)] H := hP
  have hD : va_D A [(h0, .inr (4, [.ref q1, .ref q3, .ref q5, .int (iI 0), .int (iI 0), .int (iI 0), .ref q7, .ref q8, .int (iI 0), .int (iI 0), .int (iI 0), .int (iI 0), .int (iI 0), .int (iI 0), .int (iI (-1)), .int (iI (-1)), .int (iI 0), .int (iI 0), .ref q9])), (q1, oC cA2 5 f20), (q3, oC cA4 16 (fun _ => none)), (q5, oC cA6 5 (fun _ => none)), (q7, rC), (q8, rC), (q9, zC cA10 16 (fun _ => 0)), (q11, hC), (q13, hC), (q15, hC), (q17, hC), (q19, hC), (q21, bC0)] := hD
  refine W.widen (k := 12) (n := 71) (Nat.le_of_ble_eq_true rfl) (Nat.le_of_ble_eq_true rfl) ?_
  refine lv_dup hx hb dX4_init_116 rfl ?_
  have hPc := hP.sub (ws' := [(q21, bC0)]) [12] rfl
  have hKc := hK.sub (tys' := []) [] rfl
  have hDc := hD.sub (ws' := [(q21, bC0)]) [12] (by decide) rfl
  have hFc := va_free (wc := [(q21, bC0)]) hD hS hA [12] rfl
  refine va_callv (va_runIN (As := []) (rest := [.ref q21, .int (iI 0), .ref q3]) ⟨hx, hb, hml, hown, hw⟩ (n_Book l D q21 H.size) ⟨va_cnB 0 hw (gA_c kw_47) rfl rfl rfl hE.1.2.2.1 (hw _ kw_32) (by decide +kernel) ⟨Nat.le_of_ble_eq_true rfl, Nat.le_of_ble_eq_true rfl⟩, rfl, (hw _ kw_46)⟩ (cS_s (As := [.ref q21]) hPc hDc hKc hE) rfl rfl hl.1 rfl (lv_room (Nat.le_of_ble_eq_true rfl)) dX4_init_117 ⟨Nat.le_of_ble_eq_true rfl, Nat.le_of_ble_eq_true rfl⟩) hS (fun q _ h => hFc q h) hFc (fun u t H1 locs ht hvm hw9 hB9 hz1 hk1 hS => ?_)
  obtain ⟨hP1, hD1⟩ := hB9
  rw [ht] at hP1
  obtain ⟨hP, hD⟩ := va_join (wr := [(h0, .inr (4, [.ref q1, .ref q3, .ref q5, .int (iI 0), .int (iI 0), .int (iI 0), .ref q7, .ref q8, .int (iI 0), .int (iI 0), .int (iI 0), .int (iI 0), .int (iI 0), .int (iI 0), .int (iI (-1)), .int (iI (-1)), .int (iI 0), .int (iI 0), .ref q9])), (q1, oC cA2 5 f20), (q3, oC cA4 16 (fun _ => none)), (q5, oC cA6 5 (fun _ => none)), (q7, rC), (q8, rC), (q9, zC cA10 16 (fun _ => 0)), (q11, hC), (q13, hC), (q15, hC), (q17, hC), (q19, hC)]) (w1 := [(q21, bC)]) hP hD [12] [0, 1, 2, 3, 4, 5, 6, 7, 8, 9, 10, 11] rfl rfl (by decide) (by decide) hk1 hFc hP1 hD1
  generalize H1 = H at hP hS ⊢
  have hP : va_P D vwCl [(h0, .inr (4, [.ref q1, .ref q3, .ref q5, .int (iI 0), .int (iI 0), .int (iI 0), .ref q7, .ref q8, .int (iI 0), .int (iI 0), .int (iI 0), .int (iI 0), .int (iI 0), .int (iI 0), .int (iI (-1)), .int (iI (-1)), .int (iI 0), .int (iI 0), .ref q9])), (q1, oC cA2 5 f20), (q3, oC cA4 16 (fun _ => none)), (q5, oC cA6 5 (fun _ => none)), (q7, rC), (q8, rC), (q9, zC cA10 16 (fun _ => 0)), (q11, hC), (q13, hC), (q15, hC), (q17, hC), (q19, hC), (q21, bC)] H := hP
  have hD : va_D A [(h0, .inr (4, [.ref q1, .ref q3, .ref q5, .int (iI 0), .int (iI 0), .int (iI 0), .ref q7, .ref q8, .int (iI 0), .int (iI 0), .int (iI 0), .int (iI 0), .int (iI 0), .int (iI 0), .int (iI (-1)), .int (iI (-1)), .int (iI 0), .int (iI 0), .ref q9])), (q1, oC cA2 5 f20), (q3, oC cA4 16 (fun _ => none)), (q5, oC cA6 5 (fun _ => none)), (q7, rC), (q8, rC), (q9, zC cA10 16 (fun _ => 0)), (q11, hC), (q13, hC), (q15, hC), (q17, hC), (q19, hC), (q21, bC)] := hD
  refine va_astq hx hb hK hP hD hS 2 1 12 0 rfl rfl rfl rfl (by unfold vp_in; decide +kernel) dX4_init_120 (fun H locs hP hD hS => ?_)
  obtain ⟨f22, hf22⟩ : ∃ f, f = va_up (fun _ => none) (Int32.toNatClampNeg (iI 0)) (some q21) := ⟨_, rfl⟩
  have hP : va_P D vwCl [(h0, .inr (4, [.ref q1, .ref q3, .ref q5, .int (iI 0), .int (iI 0), .int (iI 0), .ref q7, .ref q8, .int (iI 0), .int (iI 0), .int (iI 0), .int (iI 0), .int (iI 0), .int (iI 0), .int (iI (-1)), .int (iI (-1)), .int (iI 0), .int (iI 0), .ref q9])), (q1, oC cA2 5 f20), (q3, oC cA4 16 (va_up (fun _ => none) (Int32.toNatClampNeg (iI 0)) (some q21))), (q5, oC cA6 5 (fun _ => none)), (q7, rC), (q8, rC), (q9, zC cA10 16 (fun _ => 0)), (q11, hC), (q13, hC), (q15, hC), (q17, hC), (q19, hC), (q21, bC)] H := hP
  have hD : va_D A [(h0, .inr (4, [.ref q1, .ref q3, .ref q5, .int (iI 0), .int (iI 0), .int (iI 0), .ref q7, .ref q8, .int (iI 0), .int (iI 0), .int (iI 0), .int (iI 0), .int (iI 0), .int (iI 0), .int (iI (-1)), .int (iI (-1)), .int (iI 0), .int (iI 0), .ref q9])), (q1, oC cA2 5 f20), (q3, oC cA4 16 (va_up (fun _ => none) (Int32.toNatClampNeg (iI 0)) (some q21))), (q5, oC cA6 5 (fun _ => none)), (q7, rC), (q8, rC), (q9, zC cA10 16 (fun _ => 0)), (q11, hC), (q13, hC), (q15, hC), (q17, hC), (q19, hC), (q21, bC)] := hD
  rw [← hf22] at hP hD
  refine lv_iinc (v := iI 1) (lv' := [(1, .int (iI 1)), (0, .ref h0)]) hx hb dX4_init_121 hl (k := 0) rfl (by decide) (by decide) rfl (fun ls hl => ?_)
  refine lv_goto (tgt := 102) hx hb dX4_init_124 (by decide) ?_
  refine lv_iload_n hx hb dX4_init_102 rfl (lv_at hl 0 rfl) ?_
  refine lv_bipush (v := iI 16) hx hb dX4_init_103 (by decide) ?_
  refine n_icmp_ge hx hb (by unfold RI; omega) (by unfold RI; omega) (tgt := 127) dX4_init_105 (by decide) (fun h => absurd h (by decide)) (fun _ => ?_)
  refine lv_aload_n hx hb dX4_init_108 rfl (lv_at hl 1 rfl) ?_
  refine va_get (D := D) (ci := 4) (v := .ref q3) (C := RX4) (T := TX4) (N := 19) hx hb hw hin_wsX40 hown hK hP 0 rfl rfl 1 (by decide) (hw _ kw_17) (fun _ h9 => h9) rfl dX4_init_109 ?_
  refine lv_iload_n hx hb dX4_init_112 rfl (lv_at hl 0 rfl) ?_
  refine va_new (ci := 0) (fs := [.int (iI 0), .int (iI 0), .int (iI 0), .int (iI 0), .int (iI 0), .int (iI 0), .int (iI 0), .int (iI 0), .int (iI 0), .int (iI 0), .int (iI 0)]) (C := RX0) (T := TX0) (N := 11) hx hb hw hin_wsX00 tyX0 tyX0_ok hown (hw _ kw_16) (hw _ kw_31) (hw _ kw_32) hK hP hD hS hA rfl (fun j hj => by rcases (show j = 0 ∨ j = 1 ∨ j = 2 ∨ j = 3 ∨ j = 4 ∨ j = 5 ∨ j = 6 ∨ j = 7 ∨ j = 8 ∨ j = 9 ∨ j = 10 by omega) with rfl | rfl | rfl | rfl | rfl | rfl | rfl | rfl | rfl | rfl | rfl <;> rfl) (Nat.le_of_ble_eq_true rfl) (Nat.le_of_ble_eq_true rfl) dX4_init_113 (fun q23 H hP hD hS => ?_)
  have hP : va_P D vwCl [(h0, .inr (4, [.ref q1, .ref q3, .ref q5, .int (iI 0), .int (iI 0), .int (iI 0), .ref q7, .ref q8, .int (iI 0), .int (iI 0), .int (iI 0), .int (iI 0), .int (iI 0), .int (iI 0), .int (iI (-1)), .int (iI (-1)), .int (iI 0), .int (iI 0), .ref q9])), (q1, oC cA2 5 f20), (q3, oC cA4 16 f22), (q5, oC cA6 5 (fun _ => none)), (q7, rC), (q8, rC), (q9, zC cA10 16 (fun _ => 0)), (q11, hC), (q13, hC), (q15, hC), (q17, hC), (q19, hC), (q21, bC), (q23, bC0)] H := hP
  have hD : va_D A [(h0, .inr (4, [.ref q1, .ref q3, .ref q5, .int (iI 0), .int (iI 0), .int (iI 0), .ref q7, .ref q8, .int (iI 0), .int (iI 0), .int (iI 0), .int (iI 0), .int (iI 0), .int (iI 0), .int (iI (-1)), .int (iI (-1)), .int (iI 0), .int (iI 0), .ref q9])), (q1, oC cA2 5 f20), (q3, oC cA4 16 f22), (q5, oC cA6 5 (fun _ => none)), (q7, rC), (q8, rC), (q9, zC cA10 16 (fun _ => 0)), (q11, hC), (q13, hC), (q15, hC), (q17, hC), (q19, hC), (q21, bC), (q23, bC0)] := hD
  refine W.widen (k := 13) (n := 82) (Nat.le_of_ble_eq_true rfl) (Nat.le_of_ble_eq_true rfl) ?_
  refine lv_dup hx hb dX4_init_116 rfl ?_
  have hPc := hP.sub (ws' := [(q23, bC0)]) [13] rfl
  have hKc := hK.sub (tys' := []) [] rfl
  have hDc := hD.sub (ws' := [(q23, bC0)]) [13] (by decide) rfl
  have hFc := va_free (wc := [(q23, bC0)]) hD hS hA [13] rfl
  refine va_callv (va_runIN (As := []) (rest := [.ref q23, .int (iI 1), .ref q3]) ⟨hx, hb, hml, hown, hw⟩ (n_Book l D q23 H.size) ⟨va_cnB 0 hw (gA_c kw_47) rfl rfl rfl hE.1.2.2.1 (hw _ kw_32) (by decide +kernel) ⟨Nat.le_of_ble_eq_true rfl, Nat.le_of_ble_eq_true rfl⟩, rfl, (hw _ kw_46)⟩ (cS_s (As := [.ref q23]) hPc hDc hKc hE) rfl rfl hl.1 rfl (lv_room (Nat.le_of_ble_eq_true rfl)) dX4_init_117 ⟨Nat.le_of_ble_eq_true rfl, Nat.le_of_ble_eq_true rfl⟩) hS (fun q _ h => hFc q h) hFc (fun u t H1 locs ht hvm hw9 hB9 hz1 hk1 hS => ?_)
  obtain ⟨hP1, hD1⟩ := hB9
  rw [ht] at hP1
  obtain ⟨hP, hD⟩ := va_join (wr := [(h0, .inr (4, [.ref q1, .ref q3, .ref q5, .int (iI 0), .int (iI 0), .int (iI 0), .ref q7, .ref q8, .int (iI 0), .int (iI 0), .int (iI 0), .int (iI 0), .int (iI 0), .int (iI 0), .int (iI (-1)), .int (iI (-1)), .int (iI 0), .int (iI 0), .ref q9])), (q1, oC cA2 5 f20), (q3, oC cA4 16 f22), (q5, oC cA6 5 (fun _ => none)), (q7, rC), (q8, rC), (q9, zC cA10 16 (fun _ => 0)), (q11, hC), (q13, hC), (q15, hC), (q17, hC), (q19, hC), (q21, bC)]) (w1 := [(q23, bC)]) hP hD [13] [0, 1, 2, 3, 4, 5, 6, 7, 8, 9, 10, 11, 12] rfl rfl (by decide) (by decide) hk1 hFc hP1 hD1
  generalize H1 = H at hP hS ⊢
  have hP : va_P D vwCl [(h0, .inr (4, [.ref q1, .ref q3, .ref q5, .int (iI 0), .int (iI 0), .int (iI 0), .ref q7, .ref q8, .int (iI 0), .int (iI 0), .int (iI 0), .int (iI 0), .int (iI 0), .int (iI 0), .int (iI (-1)), .int (iI (-1)), .int (iI 0), .int (iI 0), .ref q9])), (q1, oC cA2 5 f20), (q3, oC cA4 16 f22), (q5, oC cA6 5 (fun _ => none)), (q7, rC), (q8, rC), (q9, zC cA10 16 (fun _ => 0)), (q11, hC), (q13, hC), (q15, hC), (q17, hC), (q19, hC), (q21, bC), (q23, bC)] H := hP
  have hD : va_D A [(h0, .inr (4, [.ref q1, .ref q3, .ref q5, .int (iI 0), .int (iI 0), .int (iI 0), .ref q7, .ref q8, .int (iI 0), .int (iI 0), .int (iI 0), .int (iI 0), .int (iI 0), .int (iI 0), .int (iI (-1)), .int (iI (-1)), .int (iI 0), .int (iI 0), .ref q9])), (q1, oC cA2 5 f20), (q3, oC cA4 16 f22), (q5, oC cA6 5 (fun _ => none)), (q7, rC), (q8, rC), (q9, zC cA10 16 (fun _ => 0)), (q11, hC), (q13, hC), (q15, hC), (q17, hC), (q19, hC), (q21, bC), (q23, bC)] := hD
  refine va_astq hx hb hK hP hD hS 2 1 13 0 rfl rfl rfl rfl (by unfold vp_in; decide +kernel) dX4_init_120 (fun H locs hP hD hS => ?_)
  obtain ⟨f24, hf24⟩ : ∃ f, f = va_up f22 (Int32.toNatClampNeg (iI 1)) (some q23) := ⟨_, rfl⟩
  have hP : va_P D vwCl [(h0, .inr (4, [.ref q1, .ref q3, .ref q5, .int (iI 0), .int (iI 0), .int (iI 0), .ref q7, .ref q8, .int (iI 0), .int (iI 0), .int (iI 0), .int (iI 0), .int (iI 0), .int (iI 0), .int (iI (-1)), .int (iI (-1)), .int (iI 0), .int (iI 0), .ref q9])), (q1, oC cA2 5 f20), (q3, oC cA4 16 (va_up f22 (Int32.toNatClampNeg (iI 1)) (some q23))), (q5, oC cA6 5 (fun _ => none)), (q7, rC), (q8, rC), (q9, zC cA10 16 (fun _ => 0)), (q11, hC), (q13, hC), (q15, hC), (q17, hC), (q19, hC), (q21, bC), (q23, bC)] H := hP
  have hD : va_D A [(h0, .inr (4, [.ref q1, .ref q3, .ref q5, .int (iI 0), .int (iI 0), .int (iI 0), .ref q7, .ref q8, .int (iI 0), .int (iI 0), .int (iI 0), .int (iI 0), .int (iI 0), .int (iI 0), .int (iI (-1)), .int (iI (-1)), .int (iI 0), .int (iI 0), .ref q9])), (q1, oC cA2 5 f20), (q3, oC cA4 16 (va_up f22 (Int32.toNatClampNeg (iI 1)) (some q23))), (q5, oC cA6 5 (fun _ => none)), (q7, rC), (q8, rC), (q9, zC cA10 16 (fun _ => 0)), (q11, hC), (q13, hC), (q15, hC), (q17, hC), (q19, hC), (q21, bC), (q23, bC)] := hD
  rw [← hf24] at hP hD
  refine lv_iinc (v := iI 2) (lv' := [(1, .int (iI 2)), (0, .ref h0)]) hx hb dX4_init_121 hl (k := 0) rfl (by decide) (by decide) rfl (fun ls hl => ?_)
  refine lv_goto (tgt := 102) hx hb dX4_init_124 (by decide) ?_
  refine lv_iload_n hx hb dX4_init_102 rfl (lv_at hl 0 rfl) ?_
  refine lv_bipush (v := iI 16) hx hb dX4_init_103 (by decide) ?_
  refine n_icmp_ge hx hb (by unfold RI; omega) (by unfold RI; omega) (tgt := 127) dX4_init_105 (by decide) (fun h => absurd h (by decide)) (fun _ => ?_)
  refine lv_aload_n hx hb dX4_init_108 rfl (lv_at hl 1 rfl) ?_
  refine va_get (D := D) (ci := 4) (v := .ref q3) (C := RX4) (T := TX4) (N := 19) hx hb hw hin_wsX40 hown hK hP 0 rfl rfl 1 (by decide) (hw _ kw_17) (fun _ h9 => h9) rfl dX4_init_109 ?_
  refine lv_iload_n hx hb dX4_init_112 rfl (lv_at hl 0 rfl) ?_
  refine va_new (ci := 0) (fs := [.int (iI 0), .int (iI 0), .int (iI 0), .int (iI 0), .int (iI 0), .int (iI 0), .int (iI 0), .int (iI 0), .int (iI 0), .int (iI 0), .int (iI 0)]) (C := RX0) (T := TX0) (N := 11) hx hb hw hin_wsX00 tyX0 tyX0_ok hown (hw _ kw_16) (hw _ kw_31) (hw _ kw_32) hK hP hD hS hA rfl (fun j hj => by rcases (show j = 0 ∨ j = 1 ∨ j = 2 ∨ j = 3 ∨ j = 4 ∨ j = 5 ∨ j = 6 ∨ j = 7 ∨ j = 8 ∨ j = 9 ∨ j = 10 by omega) with rfl | rfl | rfl | rfl | rfl | rfl | rfl | rfl | rfl | rfl | rfl <;> rfl) (Nat.le_of_ble_eq_true rfl) (Nat.le_of_ble_eq_true rfl) dX4_init_113 (fun q25 H hP hD hS => ?_)
  have hP : va_P D vwCl [(h0, .inr (4, [.ref q1, .ref q3, .ref q5, .int (iI 0), .int (iI 0), .int (iI 0), .ref q7, .ref q8, .int (iI 0), .int (iI 0), .int (iI 0), .int (iI 0), .int (iI 0), .int (iI 0), .int (iI (-1)), .int (iI (-1)), .int (iI 0), .int (iI 0), .ref q9])), (q1, oC cA2 5 f20), (q3, oC cA4 16 f24), (q5, oC cA6 5 (fun _ => none)), (q7, rC), (q8, rC), (q9, zC cA10 16 (fun _ => 0)), (q11, hC), (q13, hC), (q15, hC), (q17, hC), (q19, hC), (q21, bC), (q23, bC), (q25, bC0)] H := hP
  have hD : va_D A [(h0, .inr (4, [.ref q1, .ref q3, .ref q5, .int (iI 0), .int (iI 0), .int (iI 0), .ref q7, .ref q8, .int (iI 0), .int (iI 0), .int (iI 0), .int (iI 0), .int (iI 0), .int (iI 0), .int (iI (-1)), .int (iI (-1)), .int (iI 0), .int (iI 0), .ref q9])), (q1, oC cA2 5 f20), (q3, oC cA4 16 f24), (q5, oC cA6 5 (fun _ => none)), (q7, rC), (q8, rC), (q9, zC cA10 16 (fun _ => 0)), (q11, hC), (q13, hC), (q15, hC), (q17, hC), (q19, hC), (q21, bC), (q23, bC), (q25, bC0)] := hD
  refine W.widen (k := 14) (n := 93) (Nat.le_of_ble_eq_true rfl) (Nat.le_of_ble_eq_true rfl) ?_
  refine lv_dup hx hb dX4_init_116 rfl ?_
  have hPc := hP.sub (ws' := [(q25, bC0)]) [14] rfl
  have hKc := hK.sub (tys' := []) [] rfl
  have hDc := hD.sub (ws' := [(q25, bC0)]) [14] (by decide) rfl
  have hFc := va_free (wc := [(q25, bC0)]) hD hS hA [14] rfl
  refine va_callv (va_runIN (As := []) (rest := [.ref q25, .int (iI 2), .ref q3]) ⟨hx, hb, hml, hown, hw⟩ (n_Book l D q25 H.size) ⟨va_cnB 0 hw (gA_c kw_47) rfl rfl rfl hE.1.2.2.1 (hw _ kw_32) (by decide +kernel) ⟨Nat.le_of_ble_eq_true rfl, Nat.le_of_ble_eq_true rfl⟩, rfl, (hw _ kw_46)⟩ (cS_s (As := [.ref q25]) hPc hDc hKc hE) rfl rfl hl.1 rfl (lv_room (Nat.le_of_ble_eq_true rfl)) dX4_init_117 ⟨Nat.le_of_ble_eq_true rfl, Nat.le_of_ble_eq_true rfl⟩) hS (fun q _ h => hFc q h) hFc (fun u t H1 locs ht hvm hw9 hB9 hz1 hk1 hS => ?_)
  obtain ⟨hP1, hD1⟩ := hB9
  rw [ht] at hP1
  obtain ⟨hP, hD⟩ := va_join (wr := [(h0, .inr (4, [.ref q1, .ref q3, .ref q5, .int (iI 0), .int (iI 0), .int (iI 0), .ref q7, .ref q8, .int (iI 0), .int (iI 0), .int (iI 0), .int (iI 0), .int (iI 0), .int (iI 0), .int (iI (-1)), .int (iI (-1)), .int (iI 0), .int (iI 0), .ref q9])), (q1, oC cA2 5 f20), (q3, oC cA4 16 f24), (q5, oC cA6 5 (fun _ => none)), (q7, rC), (q8, rC), (q9, zC cA10 16 (fun _ => 0)), (q11, hC), (q13, hC), (q15, hC), (q17, hC), (q19, hC), (q21, bC), (q23, bC)]) (w1 := [(q25, bC)]) hP hD [14] [0, 1, 2, 3, 4, 5, 6, 7, 8, 9, 10, 11, 12, 13] rfl rfl (by decide) (by decide) hk1 hFc hP1 hD1
  generalize H1 = H at hP hS ⊢
  have hP : va_P D vwCl [(h0, .inr (4, [.ref q1, .ref q3, .ref q5, .int (iI 0), .int (iI 0), .int (iI 0), .ref q7, .ref q8, .int (iI 0), .int (iI 0), .int (iI 0), .int (iI 0), .int (iI 0), .int (iI 0), .int (iI (-1)), .int (iI (-1)), .int (iI 0), .int (iI 0), .ref q9])), (q1, oC cA2 5 f20), (q3, oC cA4 16 f24), (q5, oC cA6 5 (fun _ => none)), (q7, rC), (q8, rC), (q9, zC cA10 16 (fun _ => 0)), (q11, hC), (q13, hC), (q15, hC), (q17, hC), (q19, hC), (q21, bC), (q23, bC), (q25, bC)] H := hP
  have hD : va_D A [(h0, .inr (4, [.ref q1, .ref q3, .ref q5, .int (iI 0), .int (iI 0), .int (iI 0), .ref q7, .ref q8, .int (iI 0), .int (iI 0), .int (iI 0), .int (iI 0), .int (iI 0), .int (iI 0), .int (iI (-1)), .int (iI (-1)), .int (iI 0), .int (iI 0), .ref q9])), (q1, oC cA2 5 f20), (q3, oC cA4 16 f24), (q5, oC cA6 5 (fun _ => none)), (q7, rC), (q8, rC), (q9, zC cA10 16 (fun _ => 0)), (q11, hC), (q13, hC), (q15, hC), (q17, hC), (q19, hC), (q21, bC), (q23, bC), (q25, bC)] := hD
  refine va_astq hx hb hK hP hD hS 2 1 14 0 rfl rfl rfl rfl (by unfold vp_in; decide +kernel) dX4_init_120 (fun H locs hP hD hS => ?_)
  obtain ⟨f26, hf26⟩ : ∃ f, f = va_up f24 (Int32.toNatClampNeg (iI 2)) (some q25) := ⟨_, rfl⟩
  have hP : va_P D vwCl [(h0, .inr (4, [.ref q1, .ref q3, .ref q5, .int (iI 0), .int (iI 0), .int (iI 0), .ref q7, .ref q8, .int (iI 0), .int (iI 0), .int (iI 0), .int (iI 0), .int (iI 0), .int (iI 0), .int (iI (-1)), .int (iI (-1)), .int (iI 0), .int (iI 0), .ref q9])), (q1, oC cA2 5 f20), (q3, oC cA4 16 (va_up f24 (Int32.toNatClampNeg (iI 2)) (some q25))), (q5, oC cA6 5 (fun _ => none)), (q7, rC), (q8, rC), (q9, zC cA10 16 (fun _ => 0)), (q11, hC), (q13, hC), (q15, hC), (q17, hC), (q19, hC), (q21, bC), (q23, bC), (q25, bC)] H := hP
  have hD : va_D A [(h0, .inr (4, [.ref q1, .ref q3, .ref q5, .int (iI 0), .int (iI 0), .int (iI 0), .ref q7, .ref q8, .int (iI 0), .int (iI 0), .int (iI 0), .int (iI 0), .int (iI 0), .int (iI 0), .int (iI (-1)), .int (iI (-1)), .int (iI 0), .int (iI 0), .ref q9])), (q1, oC cA2 5 f20), (q3, oC cA4 16 (va_up f24 (Int32.toNatClampNeg (iI 2)) (some q25))), (q5, oC cA6 5 (fun _ => none)), (q7, rC), (q8, rC), (q9, zC cA10 16 (fun _ => 0)), (q11, hC), (q13, hC), (q15, hC), (q17, hC), (q19, hC), (q21, bC), (q23, bC), (q25, bC)] := hD
  rw [← hf26] at hP hD
  refine lv_iinc (v := iI 3) (lv' := [(1, .int (iI 3)), (0, .ref h0)]) hx hb dX4_init_121 hl (k := 0) rfl (by decide) (by decide) rfl (fun ls hl => ?_)
  refine lv_goto (tgt := 102) hx hb dX4_init_124 (by decide) ?_
  refine lv_iload_n hx hb dX4_init_102 rfl (lv_at hl 0 rfl) ?_
  refine lv_bipush (v := iI 16) hx hb dX4_init_103 (by decide) ?_
  refine n_icmp_ge hx hb (by unfold RI; omega) (by unfold RI; omega) (tgt := 127) dX4_init_105 (by decide) (fun h => absurd h (by decide)) (fun _ => ?_)
  refine lv_aload_n hx hb dX4_init_108 rfl (lv_at hl 1 rfl) ?_
  refine va_get (D := D) (ci := 4) (v := .ref q3) (C := RX4) (T := TX4) (N := 19) hx hb hw hin_wsX40 hown hK hP 0 rfl rfl 1 (by decide) (hw _ kw_17) (fun _ h9 => h9) rfl dX4_init_109 ?_
  refine lv_iload_n hx hb dX4_init_112 rfl (lv_at hl 0 rfl) ?_
  refine va_new (ci := 0) (fs := [.int (iI 0), .int (iI 0), .int (iI 0), .int (iI 0), .int (iI 0), .int (iI 0), .int (iI 0), .int (iI 0), .int (iI 0), .int (iI 0), .int (iI 0)]) (C := RX0) (T := TX0) (N := 11) hx hb hw hin_wsX00 tyX0 tyX0_ok hown (hw _ kw_16) (hw _ kw_31) (hw _ kw_32) hK hP hD hS hA rfl (fun j hj => by rcases (show j = 0 ∨ j = 1 ∨ j = 2 ∨ j = 3 ∨ j = 4 ∨ j = 5 ∨ j = 6 ∨ j = 7 ∨ j = 8 ∨ j = 9 ∨ j = 10 by omega) with rfl | rfl | rfl | rfl | rfl | rfl | rfl | rfl | rfl | rfl | rfl <;> rfl) (Nat.le_of_ble_eq_true rfl) (Nat.le_of_ble_eq_true rfl) dX4_init_113 (fun q27 H hP hD hS => ?_)
  have hP : va_P D vwCl [(h0, .inr (4, [.ref q1, .ref q3, .ref q5, .int (iI 0), .int (iI 0), .int (iI 0), .ref q7, .ref q8, .int (iI 0), .int (iI 0), .int (iI 0), .int (iI 0), .int (iI 0), .int (iI 0), .int (iI (-1)), .int (iI (-1)), .int (iI 0), .int (iI 0), .ref q9])), (q1, oC cA2 5 f20), (q3, oC cA4 16 f26), (q5, oC cA6 5 (fun _ => none)), (q7, rC), (q8, rC), (q9, zC cA10 16 (fun _ => 0)), (q11, hC), (q13, hC), (q15, hC), (q17, hC), (q19, hC), (q21, bC), (q23, bC), (q25, bC), (q27, bC0)] H := hP
  have hD : va_D A [(h0, .inr (4, [.ref q1, .ref q3, .ref q5, .int (iI 0), .int (iI 0), .int (iI 0), .ref q7, .ref q8, .int (iI 0), .int (iI 0), .int (iI 0), .int (iI 0), .int (iI 0), .int (iI 0), .int (iI (-1)), .int (iI (-1)), .int (iI 0), .int (iI 0), .ref q9])), (q1, oC cA2 5 f20), (q3, oC cA4 16 f26), (q5, oC cA6 5 (fun _ => none)), (q7, rC), (q8, rC), (q9, zC cA10 16 (fun _ => 0)), (q11, hC), (q13, hC), (q15, hC), (q17, hC), (q19, hC), (q21, bC), (q23, bC), (q25, bC), (q27, bC0)] := hD
  refine W.widen (k := 15) (n := 104) (Nat.le_of_ble_eq_true rfl) (Nat.le_of_ble_eq_true rfl) ?_
  refine lv_dup hx hb dX4_init_116 rfl ?_
  have hPc := hP.sub (ws' := [(q27, bC0)]) [15] rfl
  have hKc := hK.sub (tys' := []) [] rfl
  have hDc := hD.sub (ws' := [(q27, bC0)]) [15] (by decide) rfl
  have hFc := va_free (wc := [(q27, bC0)]) hD hS hA [15] rfl
  refine va_callv (va_runIN (As := []) (rest := [.ref q27, .int (iI 3), .ref q3]) ⟨hx, hb, hml, hown, hw⟩ (n_Book l D q27 H.size) ⟨va_cnB 0 hw (gA_c kw_47) rfl rfl rfl hE.1.2.2.1 (hw _ kw_32) (by decide +kernel) ⟨Nat.le_of_ble_eq_true rfl, Nat.le_of_ble_eq_true rfl⟩, rfl, (hw _ kw_46)⟩ (cS_s (As := [.ref q27]) hPc hDc hKc hE) rfl rfl hl.1 rfl (lv_room (Nat.le_of_ble_eq_true rfl)) dX4_init_117 ⟨Nat.le_of_ble_eq_true rfl, Nat.le_of_ble_eq_true rfl⟩) hS (fun q _ h => hFc q h) hFc (fun u t H1 locs ht hvm hw9 hB9 hz1 hk1 hS => ?_)
  obtain ⟨hP1, hD1⟩ := hB9
  rw [ht] at hP1
  obtain ⟨hP, hD⟩ := va_join (wr := [(h0, .inr (4, [.ref q1, .ref q3, .ref q5, .int (iI 0), .int (iI 0), .int (iI 0), .ref q7, .ref q8, .int (iI 0), .int (iI 0), .int (iI 0), .int (iI 0), .int (iI 0), .int (iI 0), .int (iI (-1)), .int (iI (-1)), .int (iI 0), .int (iI 0), .ref q9])), (q1, oC cA2 5 f20), (q3, oC cA4 16 f26), (q5, oC cA6 5 (fun _ => none)), (q7, rC), (q8, rC), (q9, zC cA10 16 (fun _ => 0)), (q11, hC), (q13, hC), (q15, hC), (q17, hC), (q19, hC), (q21, bC), (q23, bC), (q25, bC)]) (w1 := [(q27, bC)]) hP hD [15] [0, 1, 2, 3, 4, 5, 6, 7, 8, 9, 10, 11, 12, 13, 14] rfl rfl (by decide) (by decide) hk1 hFc hP1 hD1
  generalize H1 = H at hP hS ⊢
  have hP : va_P D vwCl [(h0, .inr (4, [.ref q1, .ref q3, .ref q5, .int (iI 0), .int (iI 0), .int (iI 0), .ref q7, .ref q8, .int (iI 0), .int (iI 0), .int (iI 0), .int (iI 0), .int (iI 0), .int (iI 0), .int (iI (-1)), .int (iI (-1)), .int (iI 0), .int (iI 0), .ref q9])), (q1, oC cA2 5 f20), (q3, oC cA4 16 f26), (q5, oC cA6 5 (fun _ => none)), (q7, rC), (q8, rC), (q9, zC cA10 16 (fun _ => 0)), (q11, hC), (q13, hC), (q15, hC), (q17, hC), (q19, hC), (q21, bC), (q23, bC), (q25, bC), (q27, bC)] H := hP
  have hD : va_D A [(h0, .inr (4, [.ref q1, .ref q3, .ref q5, .int (iI 0), .int (iI 0), .int (iI 0), .ref q7, .ref q8, .int (iI 0), .int (iI 0), .int (iI 0), .int (iI 0), .int (iI 0), .int (iI 0), .int (iI (-1)), .int (iI (-1)), .int (iI 0), .int (iI 0), .ref q9])), (q1, oC cA2 5 f20), (q3, oC cA4 16 f26), (q5, oC cA6 5 (fun _ => none)), (q7, rC), (q8, rC), (q9, zC cA10 16 (fun _ => 0)), (q11, hC), (q13, hC), (q15, hC), (q17, hC), (q19, hC), (q21, bC), (q23, bC), (q25, bC), (q27, bC)] := hD
  refine va_astq hx hb hK hP hD hS 2 1 15 0 rfl rfl rfl rfl (by unfold vp_in; decide +kernel) dX4_init_120 (fun H locs hP hD hS => ?_)
  obtain ⟨f28, hf28⟩ : ∃ f, f = va_up f26 (Int32.toNatClampNeg (iI 3)) (some q27) := ⟨_, rfl⟩
  have hP : va_P D vwCl [(h0, .inr (4, [.ref q1, .ref q3, .ref q5, .int (iI 0), .int (iI 0), .int (iI 0), .ref q7, .ref q8, .int (iI 0), .int (iI 0), .int (iI 0), .int (iI 0), .int (iI 0), .int (iI 0), .int (iI (-1)), .int (iI (-1)), .int (iI 0), .int (iI 0), .ref q9])), (q1, oC cA2 5 f20), (q3, oC cA4 16 (va_up f26 (Int32.toNatClampNeg (iI 3)) (some q27))), (q5, oC cA6 5 (fun _ => none)), (q7, rC), (q8, rC), (q9, zC cA10 16 (fun _ => 0)), (q11, hC), (q13, hC), (q15, hC), (q17, hC), (q19, hC), (q21, bC), (q23, bC), (q25, bC), (q27, bC)] H := hP
  have hD : va_D A [(h0, .inr (4, [.ref q1, .ref q3, .ref q5, .int (iI 0), .int (iI 0), .int (iI 0), .ref q7, .ref q8, .int (iI 0), .int (iI 0), .int (iI 0), .int (iI 0), .int (iI 0), .int (iI 0), .int (iI (-1)), .int (iI (-1)), .int (iI 0), .int (iI 0), .ref q9])), (q1, oC cA2 5 f20), (q3, oC cA4 16 (va_up f26 (Int32.toNatClampNeg (iI 3)) (some q27))), (q5, oC cA6 5 (fun _ => none)), (q7, rC), (q8, rC), (q9, zC cA10 16 (fun _ => 0)), (q11, hC), (q13, hC), (q15, hC), (q17, hC), (q19, hC), (q21, bC), (q23, bC), (q25, bC), (q27, bC)] := hD
  rw [← hf28] at hP hD
  refine lv_iinc (v := iI 4) (lv' := [(1, .int (iI 4)), (0, .ref h0)]) hx hb dX4_init_121 hl (k := 0) rfl (by decide) (by decide) rfl (fun ls hl => ?_)
  refine lv_goto (tgt := 102) hx hb dX4_init_124 (by decide) ?_
  refine lv_iload_n hx hb dX4_init_102 rfl (lv_at hl 0 rfl) ?_
  refine lv_bipush (v := iI 16) hx hb dX4_init_103 (by decide) ?_
  refine n_icmp_ge hx hb (by unfold RI; omega) (by unfold RI; omega) (tgt := 127) dX4_init_105 (by decide) (fun h => absurd h (by decide)) (fun _ => ?_)
  refine lv_aload_n hx hb dX4_init_108 rfl (lv_at hl 1 rfl) ?_
  refine va_get (D := D) (ci := 4) (v := .ref q3) (C := RX4) (T := TX4) (N := 19) hx hb hw hin_wsX40 hown hK hP 0 rfl rfl 1 (by decide) (hw _ kw_17) (fun _ h9 => h9) rfl dX4_init_109 ?_
  refine lv_iload_n hx hb dX4_init_112 rfl (lv_at hl 0 rfl) ?_
  refine va_new (ci := 0) (fs := [.int (iI 0), .int (iI 0), .int (iI 0), .int (iI 0), .int (iI 0), .int (iI 0), .int (iI 0), .int (iI 0), .int (iI 0), .int (iI 0), .int (iI 0)]) (C := RX0) (T := TX0) (N := 11) hx hb hw hin_wsX00 tyX0 tyX0_ok hown (hw _ kw_16) (hw _ kw_31) (hw _ kw_32) hK hP hD hS hA rfl (fun j hj => by rcases (show j = 0 ∨ j = 1 ∨ j = 2 ∨ j = 3 ∨ j = 4 ∨ j = 5 ∨ j = 6 ∨ j = 7 ∨ j = 8 ∨ j = 9 ∨ j = 10 by omega) with rfl | rfl | rfl | rfl | rfl | rfl | rfl | rfl | rfl | rfl | rfl <;> rfl) (Nat.le_of_ble_eq_true rfl) (Nat.le_of_ble_eq_true rfl) dX4_init_113 (fun q29 H hP hD hS => ?_)
  have hP : va_P D vwCl [(h0, .inr (4, [.ref q1, .ref q3, .ref q5, .int (iI 0), .int (iI 0), .int (iI 0), .ref q7, .ref q8, .int (iI 0), .int (iI 0), .int (iI 0), .int (iI 0), .int (iI 0), .int (iI 0), .int (iI (-1)), .int (iI (-1)), .int (iI 0), .int (iI 0), .ref q9])), (q1, oC cA2 5 f20), (q3, oC cA4 16 f28), (q5, oC cA6 5 (fun _ => none)), (q7, rC), (q8, rC), (q9, zC cA10 16 (fun _ => 0)), (q11, hC), (q13, hC), (q15, hC), (q17, hC), (q19, hC), (q21, bC), (q23, bC), (q25, bC), (q27, bC), (q29, bC0)] H := hP
  have hD : va_D A [(h0, .inr (4, [.ref q1, .ref q3, .ref q5, .int (iI 0), .int (iI 0), .int (iI 0), .ref q7, .ref q8, .int (iI 0), .int (iI 0), .int (iI 0), .int (iI 0), .int (iI 0), .int (iI 0), .int (iI (-1)), .int (iI (-1)), .int (iI 0), .int (iI 0), .ref q9])), (q1, oC cA2 5 f20), (q3, oC cA4 16 f28), (q5, oC cA6 5 (fun _ => none)), (q7, rC), (q8, rC), (q9, zC cA10 16 (fun _ => 0)), (q11, hC), (q13, hC), (q15, hC), (q17, hC), (q19, hC), (q21, bC), (q23, bC), (q25, bC), (q27, bC), (q29, bC0)] := hD
  refine W.widen (k := 16) (n := 115) (Nat.le_of_ble_eq_true rfl) (Nat.le_of_ble_eq_true rfl) ?_
  refine lv_dup hx hb dX4_init_116 rfl ?_
  have hPc := hP.sub (ws' := [(q29, bC0)]) [16] rfl
  have hKc := hK.sub (tys' := []) [] rfl
  have hDc := hD.sub (ws' := [(q29, bC0)]) [16] (by decide) rfl
  have hFc := va_free (wc := [(q29, bC0)]) hD hS hA [16] rfl
  refine va_callv (va_runIN (As := []) (rest := [.ref q29, .int (iI 4), .ref q3]) ⟨hx, hb, hml, hown, hw⟩ (n_Book l D q29 H.size) ⟨va_cnB 0 hw (gA_c kw_47) rfl rfl rfl hE.1.2.2.1 (hw _ kw_32) (by decide +kernel) ⟨Nat.le_of_ble_eq_true rfl, Nat.le_of_ble_eq_true rfl⟩, rfl, (hw _ kw_46)⟩ (cS_s (As := [.ref q29]) hPc hDc hKc hE) rfl rfl hl.1 rfl (lv_room (Nat.le_of_ble_eq_true rfl)) dX4_init_117 ⟨Nat.le_of_ble_eq_true rfl, Nat.le_of_ble_eq_true rfl⟩) hS (fun q _ h => hFc q h) hFc (fun u t H1 locs ht hvm hw9 hB9 hz1 hk1 hS => ?_)
  obtain ⟨hP1, hD1⟩ := hB9
  rw [ht] at hP1
  obtain ⟨hP, hD⟩ := va_join (wr := [(h0, .inr (4, [.ref q1, .ref q3, .ref q5, .int (iI 0), .int (iI 0), .int (iI 0), .ref q7, .ref q8, .int (iI 0), .int (iI 0), .int (iI 0), .int (iI 0), .int (iI 0), .int (iI 0), .int (iI (-1)), .int (iI (-1)), .int (iI 0), .int (iI 0), .ref q9])), (q1, oC cA2 5 f20), (q3, oC cA4 16 f28), (q5, oC cA6 5 (fun _ => none)), (q7, rC), (q8, rC), (q9, zC cA10 16 (fun _ => 0)), (q11, hC), (q13, hC), (q15, hC), (q17, hC), (q19, hC), (q21, bC), (q23, bC), (q25, bC), (q27, bC)]) (w1 := [(q29, bC)]) hP hD [16] [0, 1, 2, 3, 4, 5, 6, 7, 8, 9, 10, 11, 12, 13, 14, 15] rfl rfl (by decide) (by decide) hk1 hFc hP1 hD1
  generalize H1 = H at hP hS ⊢
  have hP : va_P D vwCl [(h0, .inr (4, [.ref q1, .ref q3, .ref q5, .int (iI 0), .int (iI 0), .int (iI 0), .ref q7, .ref q8, .int (iI 0), .int (iI 0), .int (iI 0), .int (iI 0), .int (iI 0), .int (iI 0), .int (iI (-1)), .int (iI (-1)), .int (iI 0), .int (iI 0), .ref q9])), (q1, oC cA2 5 f20), (q3, oC cA4 16 f28), (q5, oC cA6 5 (fun _ => none)), (q7, rC), (q8, rC), (q9, zC cA10 16 (fun _ => 0)), (q11, hC), (q13, hC), (q15, hC), (q17, hC), (q19, hC), (q21, bC), (q23, bC), (q25, bC), (q27, bC), (q29, bC)] H := hP
  have hD : va_D A [(h0, .inr (4, [.ref q1, .ref q3, .ref q5, .int (iI 0), .int (iI 0), .int (iI 0), .ref q7, .ref q8, .int (iI 0), .int (iI 0), .int (iI 0), .int (iI 0), .int (iI 0), .int (iI 0), .int (iI (-1)), .int (iI (-1)), .int (iI 0), .int (iI 0), .ref q9])), (q1, oC cA2 5 f20), (q3, oC cA4 16 f28), (q5, oC cA6 5 (fun _ => none)), (q7, rC), (q8, rC), (q9, zC cA10 16 (fun _ => 0)), (q11, hC), (q13, hC), (q15, hC), (q17, hC), (q19, hC), (q21, bC), (q23, bC), (q25, bC), (q27, bC), (q29, bC)] := hD
  refine va_astq hx hb hK hP hD hS 2 1 16 0 rfl rfl rfl rfl (by unfold vp_in; decide +kernel) dX4_init_120 (fun H locs hP hD hS => ?_)
  obtain ⟨f30, hf30⟩ : ∃ f, f = va_up f28 (Int32.toNatClampNeg (iI 4)) (some q29) := ⟨_, rfl⟩
  have hP : va_P D vwCl [(h0, .inr (4, [.ref q1, .ref q3, .ref q5, .int (iI 0), .int (iI 0), .int (iI 0), .ref q7, .ref q8, .int (iI 0), .int (iI 0), .int (iI 0), .int (iI 0), .int (iI 0), .int (iI 0), .int (iI (-1)), .int (iI (-1)), .int (iI 0), .int (iI 0), .ref q9])), (q1, oC cA2 5 f20), (q3, oC cA4 16 (va_up f28 (Int32.toNatClampNeg (iI 4)) (some q29))), (q5, oC cA6 5 (fun _ => none)), (q7, rC), (q8, rC), (q9, zC cA10 16 (fun _ => 0)), (q11, hC), (q13, hC), (q15, hC), (q17, hC), (q19, hC), (q21, bC), (q23, bC), (q25, bC), (q27, bC), (q29, bC)] H := hP
  have hD : va_D A [(h0, .inr (4, [.ref q1, .ref q3, .ref q5, .int (iI 0), .int (iI 0), .int (iI 0), .ref q7, .ref q8, .int (iI 0), .int (iI 0), .int (iI 0), .int (iI 0), .int (iI 0), .int (iI 0), .int (iI (-1)), .int (iI (-1)), .int (iI 0), .int (iI 0), .ref q9])), (q1, oC cA2 5 f20), (q3, oC cA4 16 (va_up f28 (Int32.toNatClampNeg (iI 4)) (some q29))), (q5, oC cA6 5 (fun _ => none)), (q7, rC), (q8, rC), (q9, zC cA10 16 (fun _ => 0)), (q11, hC), (q13, hC), (q15, hC), (q17, hC), (q19, hC), (q21, bC), (q23, bC), (q25, bC), (q27, bC), (q29, bC)] := hD
  rw [← hf30] at hP hD
  refine lv_iinc (v := iI 5) (lv' := [(1, .int (iI 5)), (0, .ref h0)]) hx hb dX4_init_121 hl (k := 0) rfl (by decide) (by decide) rfl (fun ls hl => ?_)
  refine lv_goto (tgt := 102) hx hb dX4_init_124 (by decide) ?_
  refine lv_iload_n hx hb dX4_init_102 rfl (lv_at hl 0 rfl) ?_
  refine lv_bipush (v := iI 16) hx hb dX4_init_103 (by decide) ?_
  refine n_icmp_ge hx hb (by unfold RI; omega) (by unfold RI; omega) (tgt := 127) dX4_init_105 (by decide) (fun h => absurd h (by decide)) (fun _ => ?_)
  refine lv_aload_n hx hb dX4_init_108 rfl (lv_at hl 1 rfl) ?_
  refine va_get (D := D) (ci := 4) (v := .ref q3) (C := RX4) (T := TX4) (N := 19) hx hb hw hin_wsX40 hown hK hP 0 rfl rfl 1 (by decide) (hw _ kw_17) (fun _ h9 => h9) rfl dX4_init_109 ?_
  refine lv_iload_n hx hb dX4_init_112 rfl (lv_at hl 0 rfl) ?_
  refine va_new (ci := 0) (fs := [.int (iI 0), .int (iI 0), .int (iI 0), .int (iI 0), .int (iI 0), .int (iI 0), .int (iI 0), .int (iI 0), .int (iI 0), .int (iI 0), .int (iI 0)]) (C := RX0) (T := TX0) (N := 11) hx hb hw hin_wsX00 tyX0 tyX0_ok hown (hw _ kw_16) (hw _ kw_31) (hw _ kw_32) hK hP hD hS hA rfl (fun j hj => by rcases (show j = 0 ∨ j = 1 ∨ j = 2 ∨ j = 3 ∨ j = 4 ∨ j = 5 ∨ j = 6 ∨ j = 7 ∨ j = 8 ∨ j = 9 ∨ j = 10 by omega) with rfl | rfl | rfl | rfl | rfl | rfl | rfl | rfl | rfl | rfl | rfl <;> rfl) (Nat.le_of_ble_eq_true rfl) (Nat.le_of_ble_eq_true rfl) dX4_init_113 (fun q31 H hP hD hS => ?_)
  have hP : va_P D vwCl [(h0, .inr (4, [.ref q1, .ref q3, .ref q5, .int (iI 0), .int (iI 0), .int (iI 0), .ref q7, .ref q8, .int (iI 0), .int (iI 0), .int (iI 0), .int (iI 0), .int (iI 0), .int (iI 0), .int (iI (-1)), .int (iI (-1)), .int (iI 0), .int (iI 0), .ref q9])), (q1, oC cA2 5 f20), (q3, oC cA4 16 f30), (q5, oC cA6 5 (fun _ => none)), (q7, rC), (q8, rC), (q9, zC cA10 16 (fun _ => 0)), (q11, hC), (q13, hC), (q15, hC), (q17, hC), (q19, hC), (q21, bC), (q23, bC), (q25, bC), (q27, bC), (q29, bC), (q31, bC0)] H := hP
  have hD : va_D A [(h0, .inr (4, [.ref q1, .ref q3, .ref q5, .int (iI 0), .int (iI 0), .int (iI 0), .ref q7, .ref q8, .int (iI 0), .int (iI 0), .int (iI 0), .int (iI 0), .int (iI 0), .int (iI 0), .int (iI (-1)), .int (iI (-1)), .int (iI 0), .int (iI 0), .ref q9])), (q1, oC cA2 5 f20), (q3, oC cA4 16 f30), (q5, oC cA6 5 (fun _ => none)), (q7, rC), (q8, rC), (q9, zC cA10 16 (fun _ => 0)), (q11, hC), (q13, hC), (q15, hC), (q17, hC), (q19, hC), (q21, bC), (q23, bC), (q25, bC), (q27, bC), (q29, bC), (q31, bC0)] := hD
  refine W.widen (k := 17) (n := 126) (Nat.le_of_ble_eq_true rfl) (Nat.le_of_ble_eq_true rfl) ?_
  refine lv_dup hx hb dX4_init_116 rfl ?_
  have hPc := hP.sub (ws' := [(q31, bC0)]) [17] rfl
  have hKc := hK.sub (tys' := []) [] rfl
  have hDc := hD.sub (ws' := [(q31, bC0)]) [17] (by decide) rfl
  have hFc := va_free (wc := [(q31, bC0)]) hD hS hA [17] rfl
  refine va_callv (va_runIN (As := []) (rest := [.ref q31, .int (iI 5), .ref q3]) ⟨hx, hb, hml, hown, hw⟩ (n_Book l D q31 H.size) ⟨va_cnB 0 hw (gA_c kw_47) rfl rfl rfl hE.1.2.2.1 (hw _ kw_32) (by decide +kernel) ⟨Nat.le_of_ble_eq_true rfl, Nat.le_of_ble_eq_true rfl⟩, rfl, (hw _ kw_46)⟩ (cS_s (As := [.ref q31]) hPc hDc hKc hE) rfl rfl hl.1 rfl (lv_room (Nat.le_of_ble_eq_true rfl)) dX4_init_117 ⟨Nat.le_of_ble_eq_true rfl, Nat.le_of_ble_eq_true rfl⟩) hS (fun q _ h => hFc q h) hFc (fun u t H1 locs ht hvm hw9 hB9 hz1 hk1 hS => ?_)
  obtain ⟨hP1, hD1⟩ := hB9
  rw [ht] at hP1
  obtain ⟨hP, hD⟩ := va_join (wr := [(h0, .inr (4, [.ref q1, .ref q3, .ref q5, .int (iI 0), .int (iI 0), .int (iI 0), .ref q7, .ref q8, .int (iI 0), .int (iI 0), .int (iI 0), .int (iI 0), .int (iI 0), .int (iI 0), .int (iI (-1)), .int (iI (-1)), .int (iI 0), .int (iI 0), .ref q9])), (q1, oC cA2 5 f20), (q3, oC cA4 16 f30), (q5, oC cA6 5 (fun _ => none)), (q7, rC), (q8, rC), (q9, zC cA10 16 (fun _ => 0)), (q11, hC), (q13, hC), (q15, hC), (q17, hC), (q19, hC), (q21, bC), (q23, bC), (q25, bC), (q27, bC), (q29, bC)]) (w1 := [(q31, bC)]) hP hD [17] [0, 1, 2, 3, 4, 5, 6, 7, 8, 9, 10, 11, 12, 13, 14, 15, 16] rfl rfl (by decide) (by decide) hk1 hFc hP1 hD1
  generalize H1 = H at hP hS ⊢
  have hP : va_P D vwCl [(h0, .inr (4, [.ref q1, .ref q3, .ref q5, .int (iI 0), .int (iI 0), .int (iI 0), .ref q7, .ref q8, .int (iI 0), .int (iI 0), .int (iI 0), .int (iI 0), .int (iI 0), .int (iI 0), .int (iI (-1)), .int (iI (-1)), .int (iI 0), .int (iI 0), .ref q9])), (q1, oC cA2 5 f20), (q3, oC cA4 16 f30), (q5, oC cA6 5 (fun _ => none)), (q7, rC), (q8, rC), (q9, zC cA10 16 (fun _ => 0)), (q11, hC), (q13, hC), (q15, hC), (q17, hC), (q19, hC), (q21, bC), (q23, bC), (q25, bC), (q27, bC), (q29, bC), (q31, bC)] H := hP
  have hD : va_D A [(h0, .inr (4, [.ref q1, .ref q3, .ref q5, .int (iI 0), .int (iI 0), .int (iI 0), .ref q7, .ref q8, .int (iI 0), .int (iI 0), .int (iI 0), .int (iI 0), .int (iI 0), .int (iI 0), .int (iI (-1)), .int (iI (-1)), .int (iI 0), .int (iI 0), .ref q9])), (q1, oC cA2 5 f20), (q3, oC cA4 16 f30), (q5, oC cA6 5 (fun _ => none)), (q7, rC), (q8, rC), (q9, zC cA10 16 (fun _ => 0)), (q11, hC), (q13, hC), (q15, hC), (q17, hC), (q19, hC), (q21, bC), (q23, bC), (q25, bC), (q27, bC), (q29, bC), (q31, bC)] := hD
  refine va_astq hx hb hK hP hD hS 2 1 17 0 rfl rfl rfl rfl (by unfold vp_in; decide +kernel) dX4_init_120 (fun H locs hP hD hS => ?_)
  obtain ⟨f32, hf32⟩ : ∃ f, f = va_up f30 (Int32.toNatClampNeg (iI 5)) (some q31) := ⟨_, rfl⟩
  have hP : va_P D vwCl [(h0, .inr (4, [.ref q1, .ref q3, .ref q5, .int (iI 0), .int (iI 0), .int (iI 0), .ref q7, .ref q8, .int (iI 0), .int (iI 0), .int (iI 0), .int (iI 0), .int (iI 0), .int (iI 0), .int (iI (-1)), .int (iI (-1)), .int (iI 0), .int (iI 0), .ref q9])), (q1, oC cA2 5 f20), (q3, oC cA4 16 (va_up f30 (Int32.toNatClampNeg (iI 5)) (some q31))), (q5, oC cA6 5 (fun _ => none)), (q7, rC), (q8, rC), (q9, zC cA10 16 (fun _ => 0)), (q11, hC), (q13, hC), (q15, hC), (q17, hC), (q19, hC), (q21, bC), (q23, bC), (q25, bC), (q27, bC), (q29, bC), (q31, bC)] H := hP
  have hD : va_D A [(h0, .inr (4, [.ref q1, .ref q3, .ref q5, .int (iI 0), .int (iI 0), .int (iI 0), .ref q7, .ref q8, .int (iI 0), .int (iI 0), .int (iI 0), .int (iI 0), .int (iI 0), .int (iI 0), .int (iI (-1)), .int (iI (-1)), .int (iI 0), .int (iI 0), .ref q9])), (q1, oC cA2 5 f20), (q3, oC cA4 16 (va_up f30 (Int32.toNatClampNeg (iI 5)) (some q31))), (q5, oC cA6 5 (fun _ => none)), (q7, rC), (q8, rC), (q9, zC cA10 16 (fun _ => 0)), (q11, hC), (q13, hC), (q15, hC), (q17, hC), (q19, hC), (q21, bC), (q23, bC), (q25, bC), (q27, bC), (q29, bC), (q31, bC)] := hD
  rw [← hf32] at hP hD
  refine lv_iinc (v := iI 6) (lv' := [(1, .int (iI 6)), (0, .ref h0)]) hx hb dX4_init_121 hl (k := 0) rfl (by decide) (by decide) rfl (fun ls hl => ?_)
  refine lv_goto (tgt := 102) hx hb dX4_init_124 (by decide) ?_
  refine lv_iload_n hx hb dX4_init_102 rfl (lv_at hl 0 rfl) ?_
  refine lv_bipush (v := iI 16) hx hb dX4_init_103 (by decide) ?_
  refine n_icmp_ge hx hb (by unfold RI; omega) (by unfold RI; omega) (tgt := 127) dX4_init_105 (by decide) (fun h => absurd h (by decide)) (fun _ => ?_)
  refine lv_aload_n hx hb dX4_init_108 rfl (lv_at hl 1 rfl) ?_
  refine va_get (D := D) (ci := 4) (v := .ref q3) (C := RX4) (T := TX4) (N := 19) hx hb hw hin_wsX40 hown hK hP 0 rfl rfl 1 (by decide) (hw _ kw_17) (fun _ h9 => h9) rfl dX4_init_109 ?_
  refine lv_iload_n hx hb dX4_init_112 rfl (lv_at hl 0 rfl) ?_
  refine va_new (ci := 0) (fs := [.int (iI 0), .int (iI 0), .int (iI 0), .int (iI 0), .int (iI 0), .int (iI 0), .int (iI 0), .int (iI 0), .int (iI 0), .int (iI 0), .int (iI 0)]) (C := RX0) (T := TX0) (N := 11) hx hb hw hin_wsX00 tyX0 tyX0_ok hown (hw _ kw_16) (hw _ kw_31) (hw _ kw_32) hK hP hD hS hA rfl (fun j hj => by rcases (show j = 0 ∨ j = 1 ∨ j = 2 ∨ j = 3 ∨ j = 4 ∨ j = 5 ∨ j = 6 ∨ j = 7 ∨ j = 8 ∨ j = 9 ∨ j = 10 by omega) with rfl | rfl | rfl | rfl | rfl | rfl | rfl | rfl | rfl | rfl | rfl <;> rfl) (Nat.le_of_ble_eq_true rfl) (Nat.le_of_ble_eq_true rfl) dX4_init_113 (fun q33 H hP hD hS => ?_)
  have hP : va_P D vwCl [(h0, .inr (4, [.ref q1, .ref q3, .ref q5, .int (iI 0), .int (iI 0), .int (iI 0), .ref q7, .ref q8, .int (iI 0), .int (iI 0), .int (iI 0), .int (iI 0), .int (iI 0), .int (iI 0), .int (iI (-1)), .int (iI (-1)), .int (iI 0), .int (iI 0), .ref q9])), (q1, oC cA2 5 f20), (q3, oC cA4 16 f32), (q5, oC cA6 5 (fun _ => none)), (q7, rC), (q8, rC), (q9, zC cA10 16 (fun _ => 0)), (q11, hC), (q13, hC), (q15, hC), (q17, hC), (q19, hC), (q21, bC), (q23, bC), (q25, bC), (q27, bC), (q29, bC), (q31, bC), (q33, bC0)] H := hP
  have hD : va_D A [(h0, .inr (4, [.ref q1, .ref q3, .ref q5, .int (iI 0), .int (iI 0), .int (iI 0), .ref q7, .ref q8, .int (iI 0), .int (iI 0), .int (iI 0), .int (iI 0), .int (iI 0), .int (iI 0), .int (iI (-1)), .int (iI (-1)), .int (iI 0), .int (iI 0), .ref q9])), (q1, oC cA2 5 f20), (q3, oC cA4 16 f32), (q5, oC cA6 5 (fun _ => none)), (q7, rC), (q8, rC), (q9, zC cA10 16 (fun _ => 0)), (q11, hC), (q13, hC), (q15, hC), (q17, hC), (q19, hC), (q21, bC), (q23, bC), (q25, bC), (q27, bC), (q29, bC), (q31, bC), (q33, bC0)] := hD
  refine W.widen (k := 18) (n := 137) (Nat.le_of_ble_eq_true rfl) (Nat.le_of_ble_eq_true rfl) ?_
  refine lv_dup hx hb dX4_init_116 rfl ?_
  have hPc := hP.sub (ws' := [(q33, bC0)]) [18] rfl
  have hKc := hK.sub (tys' := []) [] rfl
  have hDc := hD.sub (ws' := [(q33, bC0)]) [18] (by decide) rfl
  have hFc := va_free (wc := [(q33, bC0)]) hD hS hA [18] rfl
  refine va_callv (va_runIN (As := []) (rest := [.ref q33, .int (iI 6), .ref q3]) ⟨hx, hb, hml, hown, hw⟩ (n_Book l D q33 H.size) ⟨va_cnB 0 hw (gA_c kw_47) rfl rfl rfl hE.1.2.2.1 (hw _ kw_32) (by decide +kernel) ⟨Nat.le_of_ble_eq_true rfl, Nat.le_of_ble_eq_true rfl⟩, rfl, (hw _ kw_46)⟩ (cS_s (As := [.ref q33]) hPc hDc hKc hE) rfl rfl hl.1 rfl (lv_room (Nat.le_of_ble_eq_true rfl)) dX4_init_117 ⟨Nat.le_of_ble_eq_true rfl, Nat.le_of_ble_eq_true rfl⟩) hS (fun q _ h => hFc q h) hFc (fun u t H1 locs ht hvm hw9 hB9 hz1 hk1 hS => ?_)
  obtain ⟨hP1, hD1⟩ := hB9
  rw [ht] at hP1
  obtain ⟨hP, hD⟩ := va_join (wr := [(h0, .inr (4, [.ref q1, .ref q3, .ref q5, .int (iI 0), .int (iI 0), .int (iI 0), .ref q7, .ref q8, .int (iI 0), .int (iI 0), .int (iI 0), .int (iI 0), .int (iI 0), .int (iI 0), .int (iI (-1)), .int (iI (-1)), .int (iI 0), .int (iI 0), .ref q9])), (q1, oC cA2 5 f20), (q3, oC cA4 16 f32), (q5, oC cA6 5 (fun _ => none)), (q7, rC), (q8, rC), (q9, zC cA10 16 (fun _ => 0)), (q11, hC), (q13, hC), (q15, hC), (q17, hC), (q19, hC), (q21, bC), (q23, bC), (q25, bC), (q27, bC), (q29, bC), (q31, bC)]) (w1 := [(q33, bC)]) hP hD [18] [0, 1, 2, 3, 4, 5, 6, 7, 8, 9, 10, 11, 12, 13, 14, 15, 16, 17] rfl rfl (by decide) (by decide) hk1 hFc hP1 hD1
  generalize H1 = H at hP hS ⊢
  have hP : va_P D vwCl [(h0, .inr (4, [.ref q1, .ref q3, .ref q5, .int (iI 0), .int (iI 0), .int (iI 0), .ref q7, .ref q8, .int (iI 0), .int (iI 0), .int (iI 0), .int (iI 0), .int (iI 0), .int (iI 0), .int (iI (-1)), .int (iI (-1)), .int (iI 0), .int (iI 0), .ref q9])), (q1, oC cA2 5 f20), (q3, oC cA4 16 f32), (q5, oC cA6 5 (fun _ => none)), (q7, rC), (q8, rC), (q9, zC cA10 16 (fun _ => 0)), (q11, hC), (q13, hC), (q15, hC), (q17, hC), (q19, hC), (q21, bC), (q23, bC), (q25, bC), (q27, bC), (q29, bC), (q31, bC), (q33, bC)] H := hP
  have hD : va_D A [(h0, .inr (4, [.ref q1, .ref q3, .ref q5, .int (iI 0), .int (iI 0), .int (iI 0), .ref q7, .ref q8, .int (iI 0), .int (iI 0), .int (iI 0), .int (iI 0), .int (iI 0), .int (iI 0), .int (iI (-1)), .int (iI (-1)), .int (iI 0), .int (iI 0), .ref q9])), (q1, oC cA2 5 f20), (q3, oC cA4 16 f32), (q5, oC cA6 5 (fun _ => none)), (q7, rC), (q8, rC), (q9, zC cA10 16 (fun _ => 0)), (q11, hC), (q13, hC), (q15, hC), (q17, hC), (q19, hC), (q21, bC), (q23, bC), (q25, bC), (q27, bC), (q29, bC), (q31, bC), (q33, bC)] := hD
  refine va_astq hx hb hK hP hD hS 2 1 18 0 rfl rfl rfl rfl (by unfold vp_in; decide +kernel) dX4_init_120 (fun H locs hP hD hS => ?_)
  obtain ⟨f34, hf34⟩ : ∃ f, f = va_up f32 (Int32.toNatClampNeg (iI 6)) (some q33) := ⟨_, rfl⟩
  have hP : va_P D vwCl [(h0, .inr (4, [.ref q1, .ref q3, .ref q5, .int (iI 0), .int (iI 0), .int (iI 0), .ref q7, .ref q8, .int (iI 0), .int (iI 0), .int (iI 0), .int (iI 0), .int (iI 0), .int (iI 0), .int (iI (-1)), .int (iI (-1)), .int (iI 0), .int (iI 0), .ref q9])), (q1, oC cA2 5 f20), (q3, oC cA4 16 (va_up f32 (Int32.toNatClampNeg (iI 6)) (some q33))), (q5, oC cA6 5 (fun _ => none)), (q7, rC), (q8, rC), (q9, zC cA10 16 (fun _ => 0)), (q11, hC), (q13, hC), (q15, hC), (q17, hC), (q19, hC), (q21, bC), (q23, bC), (q25, bC), (q27, bC), (q29, bC), (q31, bC), (q33, bC)] H := hP
  have hD : va_D A [(h0, .inr (4, [.ref q1, .ref q3, .ref q5, .int (iI 0), .int (iI 0), .int (iI 0), .ref q7, .ref q8, .int (iI 0), .int (iI 0), .int (iI 0), .int (iI 0), .int (iI 0), .int (iI 0), .int (iI (-1)), .int (iI (-1)), .int (iI 0), .int (iI 0), .ref q9])), (q1, oC cA2 5 f20), (q3, oC cA4 16 (va_up f32 (Int32.toNatClampNeg (iI 6)) (some q33))), (q5, oC cA6 5 (fun _ => none)), (q7, rC), (q8, rC), (q9, zC cA10 16 (fun _ => 0)), (q11, hC), (q13, hC), (q15, hC), (q17, hC), (q19, hC), (q21, bC), (q23, bC), (q25, bC), (q27, bC), (q29, bC), (q31, bC), (q33, bC)] := hD
  rw [← hf34] at hP hD
  refine lv_iinc (v := iI 7) (lv' := [(1, .int (iI 7)), (0, .ref h0)]) hx hb dX4_init_121 hl (k := 0) rfl (by decide) (by decide) rfl (fun ls hl => ?_)
  refine lv_goto (tgt := 102) hx hb dX4_init_124 (by decide) ?_
  refine lv_iload_n hx hb dX4_init_102 rfl (lv_at hl 0 rfl) ?_
  refine lv_bipush (v := iI 16) hx hb dX4_init_103 (by decide) ?_
  refine n_icmp_ge hx hb (by unfold RI; omega) (by unfold RI; omega) (tgt := 127) dX4_init_105 (by decide) (fun h => absurd h (by decide)) (fun _ => ?_)
  refine lv_aload_n hx hb dX4_init_108 rfl (lv_at hl 1 rfl) ?_
  refine va_get (D := D) (ci := 4) (v := .ref q3) (C := RX4) (T := TX4) (N := 19) hx hb hw hin_wsX40 hown hK hP 0 rfl rfl 1 (by decide) (hw _ kw_17) (fun _ h9 => h9) rfl dX4_init_109 ?_
  refine lv_iload_n hx hb dX4_init_112 rfl (lv_at hl 0 rfl) ?_
  refine va_new (ci := 0) (fs := [.int (iI 0), .int (iI 0), .int (iI 0), .int (iI 0), .int (iI 0), .int (iI 0), .int (iI 0), .int (iI 0), .int (iI 0), .int (iI 0), .int (iI 0)]) (C := RX0) (T := TX0) (N := 11) hx hb hw hin_wsX00 tyX0 tyX0_ok hown (hw _ kw_16) (hw _ kw_31) (hw _ kw_32) hK hP hD hS hA rfl (fun j hj => by rcases (show j = 0 ∨ j = 1 ∨ j = 2 ∨ j = 3 ∨ j = 4 ∨ j = 5 ∨ j = 6 ∨ j = 7 ∨ j = 8 ∨ j = 9 ∨ j = 10 by omega) with rfl | rfl | rfl | rfl | rfl | rfl | rfl | rfl | rfl | rfl | rfl <;> rfl) (Nat.le_of_ble_eq_true rfl) (Nat.le_of_ble_eq_true rfl) dX4_init_113 (fun q35 H hP hD hS => ?_)
  have hP : va_P D vwCl [(h0, .inr (4, [.ref q1, .ref q3, .ref q5, .int (iI 0), .int (iI 0), .int (iI 0), .ref q7, .ref q8, .int (iI 0), .int (iI 0), .int (iI 0), .int (iI 0), .int (iI 0), .int (iI 0), .int (iI (-1)), .int (iI (-1)), .int (iI 0), .int (iI 0), .ref q9])), (q1, oC cA2 5 f20), (q3, oC cA4 16 f34), (q5, oC cA6 5 (fun _ => none)), (q7, rC), (q8, rC), (q9, zC cA10 16 (fun _ => 0)), (q11, hC), (q13, hC), (q15, hC), (q17, hC), (q19, hC), (q21, bC), (q23, bC), (q25, bC), (q27, bC), (q29, bC), (q31, bC), (q33, bC), (q35, bC0)] H := hP
  have hD : va_D A [(h0, .inr (4, [.ref q1, .ref q3, .ref q5, .int (iI 0), .int (iI 0), .int (iI 0), .ref q7, .ref q8, .int (iI 0), .int (iI 0), .int (iI 0), .int (iI 0), .int (iI 0), .int (iI 0), .int (iI (-1)), .int (iI (-1)), .int (iI 0), .int (iI 0), .ref q9])), (q1, oC cA2 5 f20), (q3, oC cA4 16 f34), (q5, oC cA6 5 (fun _ => none)), (q7, rC), (q8, rC), (q9, zC cA10 16 (fun _ => 0)), (q11, hC), (q13, hC), (q15, hC), (q17, hC), (q19, hC), (q21, bC), (q23, bC), (q25, bC), (q27, bC), (q29, bC), (q31, bC), (q33, bC), (q35, bC0)] := hD
  refine W.widen (k := 19) (n := 148) (Nat.le_of_ble_eq_true rfl) (Nat.le_of_ble_eq_true rfl) ?_
  refine lv_dup hx hb dX4_init_116 rfl ?_
  have hPc := hP.sub (ws' := [(q35, bC0)]) [19] rfl
  have hKc := hK.sub (tys' := []) [] rfl
  have hDc := hD.sub (ws' := [(q35, bC0)]) [19] (by decide) rfl
  have hFc := va_free (wc := [(q35, bC0)]) hD hS hA [19] rfl
  refine va_callv (va_runIN (As := []) (rest := [.ref q35, .int (iI 7), .ref q3]) ⟨hx, hb, hml, hown, hw⟩ (n_Book l D q35 H.size) ⟨va_cnB 0 hw (gA_c kw_47) rfl rfl rfl hE.1.2.2.1 (hw _ kw_32) (by decide +kernel) ⟨Nat.le_of_ble_eq_true rfl, Nat.le_of_ble_eq_true rfl⟩, rfl, (hw _ kw_46)⟩ (cS_s (As := [.ref q35]) hPc hDc hKc hE) rfl rfl hl.1 rfl (lv_room (Nat.le_of_ble_eq_true rfl)) dX4_init_117 ⟨Nat.le_of_ble_eq_true rfl, Nat.le_of_ble_eq_true rfl⟩) hS (fun q _ h => hFc q h) hFc (fun u t H1 locs ht hvm hw9 hB9 hz1 hk1 hS => ?_)
  obtain ⟨hP1, hD1⟩ := hB9
  rw [ht] at hP1
  obtain ⟨hP, hD⟩ := va_join (wr := [(h0, .inr (4, [.ref q1, .ref q3, .ref q5, .int (iI 0), .int (iI 0), .int (iI 0), .ref q7, .ref q8, .int (iI 0), .int (iI 0), .int (iI 0), .int (iI 0), .int (iI 0), .int (iI 0), .int (iI (-1)), .int (iI (-1)), .int (iI 0), .int (iI 0), .ref q9])), (q1, oC cA2 5 f20), (q3, oC cA4 16 f34), (q5, oC cA6 5 (fun _ => none)), (q7, rC), (q8, rC), (q9, zC cA10 16 (fun _ => 0)), (q11, hC), (q13, hC), (q15, hC), (q17, hC), (q19, hC), (q21, bC), (q23, bC), (q25, bC), (q27, bC), (q29, bC), (q31, bC), (q33, bC)]) (w1 := [(q35, bC)]) hP hD [19] [0, 1, 2, 3, 4, 5, 6, 7, 8, 9, 10, 11, 12, 13, 14, 15, 16, 17, 18] rfl rfl (by decide) (by decide) hk1 hFc hP1 hD1
  generalize H1 = H at hP hS ⊢
  have hP : va_P D vwCl [(h0, .inr (4, [.ref q1, .ref q3, .ref q5, .int (iI 0), .int (iI 0), .int (iI 0), .ref q7, .ref q8, .int (iI 0), .int (iI 0), .int (iI 0), .int (iI 0), .int (iI 0), .int (iI 0), .int (iI (-1)), .int (iI (-1)), .int (iI 0), .int (iI 0), .ref q9])), (q1, oC cA2 5 f20), (q3, oC cA4 16 f34), (q5, oC cA6 5 (fun _ => none)), (q7, rC), (q8, rC), (q9, zC cA10 16 (fun _ => 0)), (q11, hC), (q13, hC), (q15, hC), (q17, hC), (q19, hC), (q21, bC), (q23, bC), (q25, bC), (q27, bC), (q29, bC), (q31, bC), (q33, bC), (q35, bC)] H := hP
  have hD : va_D A [(h0, .inr (4, [.ref q1, .ref q3, .ref q5, .int (iI 0), .int (iI 0), .int (iI 0), .ref q7, .ref q8, .int (iI 0), .int (iI 0), .int (iI 0), .int (iI 0), .int (iI 0), .int (iI 0), .int (iI (-1)), .int (iI (-1)), .int (iI 0), .int (iI 0), .ref q9])), (q1, oC cA2 5 f20), (q3, oC cA4 16 f34), (q5, oC cA6 5 (fun _ => none)), (q7, rC), (q8, rC), (q9, zC cA10 16 (fun _ => 0)), (q11, hC), (q13, hC), (q15, hC), (q17, hC), (q19, hC), (q21, bC), (q23, bC), (q25, bC), (q27, bC), (q29, bC), (q31, bC), (q33, bC), (q35, bC)] := hD
  refine va_astq hx hb hK hP hD hS 2 1 19 0 rfl rfl rfl rfl (by unfold vp_in; decide +kernel) dX4_init_120 (fun H locs hP hD hS => ?_)
  obtain ⟨f36, hf36⟩ : ∃ f, f = va_up f34 (Int32.toNatClampNeg (iI 7)) (some q35) := ⟨_, rfl⟩
  have hP : va_P D vwCl [(h0, .inr (4, [.ref q1, .ref q3, .ref q5, .int (iI 0), .int (iI 0), .int (iI 0), .ref q7, .ref q8, .int (iI 0), .int (iI 0), .int (iI 0), .int (iI 0), .int (iI 0), .int (iI 0), .int (iI (-1)), .int (iI (-1)), .int (iI 0), .int (iI 0), .ref q9])), (q1, oC cA2 5 f20), (q3, oC cA4 16 (va_up f34 (Int32.toNatClampNeg (iI 7)) (some q35))), (q5, oC cA6 5 (fun _ => none)), (q7, rC), (q8, rC), (q9, zC cA10 16 (fun _ => 0)), (q11, hC), (q13, hC), (q15, hC), (q17, hC), (q19, hC), (q21, bC), (q23, bC), (q25, bC), (q27, bC), (q29, bC), (q31, bC), (q33, bC), (q35, bC)] H := hP
  have hD : va_D A [(h0, .inr (4, [.ref q1, .ref q3, .ref q5, .int (iI 0), .int (iI 0), .int (iI 0), .ref q7, .ref q8, .int (iI 0), .int (iI 0), .int (iI 0), .int (iI 0), .int (iI 0), .int (iI 0), .int (iI (-1)), .int (iI (-1)), .int (iI 0), .int (iI 0), .ref q9])), (q1, oC cA2 5 f20), (q3, oC cA4 16 (va_up f34 (Int32.toNatClampNeg (iI 7)) (some q35))), (q5, oC cA6 5 (fun _ => none)), (q7, rC), (q8, rC), (q9, zC cA10 16 (fun _ => 0)), (q11, hC), (q13, hC), (q15, hC), (q17, hC), (q19, hC), (q21, bC), (q23, bC), (q25, bC), (q27, bC), (q29, bC), (q31, bC), (q33, bC), (q35, bC)] := hD
  rw [← hf36] at hP hD
  refine lv_iinc (v := iI 8) (lv' := [(1, .int (iI 8)), (0, .ref h0)]) hx hb dX4_init_121 hl (k := 0) rfl (by decide) (by decide) rfl (fun ls hl => ?_)
  refine lv_goto (tgt := 102) hx hb dX4_init_124 (by decide) ?_
  refine lv_iload_n hx hb dX4_init_102 rfl (lv_at hl 0 rfl) ?_
  refine lv_bipush (v := iI 16) hx hb dX4_init_103 (by decide) ?_
  refine n_icmp_ge hx hb (by unfold RI; omega) (by unfold RI; omega) (tgt := 127) dX4_init_105 (by decide) (fun h => absurd h (by decide)) (fun _ => ?_)
  refine lv_aload_n hx hb dX4_init_108 rfl (lv_at hl 1 rfl) ?_
  refine va_get (D := D) (ci := 4) (v := .ref q3) (C := RX4) (T := TX4) (N := 19) hx hb hw hin_wsX40 hown hK hP 0 rfl rfl 1 (by decide) (hw _ kw_17) (fun _ h9 => h9) rfl dX4_init_109 ?_
  refine lv_iload_n hx hb dX4_init_112 rfl (lv_at hl 0 rfl) ?_
  refine va_new (ci := 0) (fs := [.int (iI 0), .int (iI 0), .int (iI 0), .int (iI 0), .int (iI 0), .int (iI 0), .int (iI 0), .int (iI 0), .int (iI 0), .int (iI 0), .int (iI 0)]) (C := RX0) (T := TX0) (N := 11) hx hb hw hin_wsX00 tyX0 tyX0_ok hown (hw _ kw_16) (hw _ kw_31) (hw _ kw_32) hK hP hD hS hA rfl (fun j hj => by rcases (show j = 0 ∨ j = 1 ∨ j = 2 ∨ j = 3 ∨ j = 4 ∨ j = 5 ∨ j = 6 ∨ j = 7 ∨ j = 8 ∨ j = 9 ∨ j = 10 by omega) with rfl | rfl | rfl | rfl | rfl | rfl | rfl | rfl | rfl | rfl | rfl <;> rfl) (Nat.le_of_ble_eq_true rfl) (Nat.le_of_ble_eq_true rfl) dX4_init_113 (fun q37 H hP hD hS => ?_)
  have hP : va_P D vwCl [(h0, .inr (4, [.ref q1, .ref q3, .ref q5, .int (iI 0), .int (iI 0), .int (iI 0), .ref q7, .ref q8, .int (iI 0), .int (iI 0), .int (iI 0), .int (iI 0), .int (iI 0), .int (iI 0), .int (iI (-1)), .int (iI (-1)), .int (iI 0), .int (iI 0), .ref q9])), (q1, oC cA2 5 f20), (q3, oC cA4 16 f36), (q5, oC cA6 5 (fun _ => none)), (q7, rC), (q8, rC), (q9, zC cA10 16 (fun _ => 0)), (q11, hC), (q13, hC), (q15, hC), (q17, hC), (q19, hC), (q21, bC), (q23, bC), (q25, bC), (q27, bC), (q29, bC), (q31, bC), (q33, bC), (q35, bC), (q37, bC0)] H := hP
  have hD : va_D A [(h0, .inr (4, [.ref q1, .ref q3, .ref q5, .int (iI 0), .int (iI 0), .int (iI 0), .ref q7, .ref q8, .int (iI 0), .int (iI 0), .int (iI 0), .int (iI 0), .int (iI 0), .int (iI 0), .int (iI (-1)), .int (iI (-1)), .int (iI 0), .int (iI 0), .ref q9])), (q1, oC cA2 5 f20), (q3, oC cA4 16 f36), (q5, oC cA6 5 (fun _ => none)), (q7, rC), (q8, rC), (q9, zC cA10 16 (fun _ => 0)), (q11, hC), (q13, hC), (q15, hC), (q17, hC), (q19, hC), (q21, bC), (q23, bC), (q25, bC), (q27, bC), (q29, bC), (q31, bC), (q33, bC), (q35, bC), (q37, bC0)] := hD
  refine W.widen (k := 20) (n := 159) (Nat.le_of_ble_eq_true rfl) (Nat.le_of_ble_eq_true rfl) ?_
  refine lv_dup hx hb dX4_init_116 rfl ?_
  have hPc := hP.sub (ws' := [(q37, bC0)]) [20] rfl
  have hKc := hK.sub (tys' := []) [] rfl
  have hDc := hD.sub (ws' := [(q37, bC0)]) [20] (by decide) rfl
  have hFc := va_free (wc := [(q37, bC0)]) hD hS hA [20] rfl
  refine va_callv (va_runIN (As := []) (rest := [.ref q37, .int (iI 8), .ref q3]) ⟨hx, hb, hml, hown, hw⟩ (n_Book l D q37 H.size) ⟨va_cnB 0 hw (gA_c kw_47) rfl rfl rfl hE.1.2.2.1 (hw _ kw_32) (by decide +kernel) ⟨Nat.le_of_ble_eq_true rfl, Nat.le_of_ble_eq_true rfl⟩, rfl, (hw _ kw_46)⟩ (cS_s (As := [.ref q37]) hPc hDc hKc hE) rfl rfl hl.1 rfl (lv_room (Nat.le_of_ble_eq_true rfl)) dX4_init_117 ⟨Nat.le_of_ble_eq_true rfl, Nat.le_of_ble_eq_true rfl⟩) hS (fun q _ h => hFc q h) hFc (fun u t H1 locs ht hvm hw9 hB9 hz1 hk1 hS => ?_)
  obtain ⟨hP1, hD1⟩ := hB9
  rw [ht] at hP1
  obtain ⟨hP, hD⟩ := va_join (wr := [(h0, .inr (4, [.ref q1, .ref q3, .ref q5, .int (iI 0), .int (iI 0), .int (iI 0), .ref q7, .ref q8, .int (iI 0), .int (iI 0), .int (iI 0), .int (iI 0), .int (iI 0), .int (iI 0), .int (iI (-1)), .int (iI (-1)), .int (iI 0), .int (iI 0), .ref q9])), (q1, oC cA2 5 f20), (q3, oC cA4 16 f36), (q5, oC cA6 5 (fun _ => none)), (q7, rC), (q8, rC), (q9, zC cA10 16 (fun _ => 0)), (q11, hC), (q13, hC), (q15, hC), (q17, hC), (q19, hC), (q21, bC), (q23, bC), (q25, bC), (q27, bC), (q29, bC), (q31, bC), (q33, bC), (q35, bC)]) (w1 := [(q37, bC)]) hP hD [20] [0, 1, 2, 3, 4, 5, 6, 7, 8, 9, 10, 11, 12, 13, 14, 15, 16, 17, 18, 19] rfl rfl (by decide) (by decide) hk1 hFc hP1 hD1
  generalize H1 = H at hP hS ⊢
  have hP : va_P D vwCl [(h0, .inr (4, [.ref q1, .ref q3, .ref q5, .int (iI 0), .int (iI 0), .int (iI 0), .ref q7, .ref q8, .int (iI 0), .int (iI 0), .int (iI 0), .int (iI 0), .int (iI 0), .int (iI 0), .int (iI (-1)), .int (iI (-1)), .int (iI 0), .int (iI 0), .ref q9])), (q1, oC cA2 5 f20), (q3, oC cA4 16 f36), (q5, oC cA6 5 (fun _ => none)), (q7, rC), (q8, rC), (q9, zC cA10 16 (fun _ => 0)), (q11, hC), (q13, hC), (q15, hC), (q17, hC), (q19, hC), (q21, bC), (q23, bC), (q25, bC), (q27, bC), (q29, bC), (q31, bC), (q33, bC), (q35, bC), (q37, bC)] H := hP
  have hD : va_D A [(h0, .inr (4, [.ref q1, .ref q3, .ref q5, .int (iI 0), .int (iI 0), .int (iI 0), .ref q7, .ref q8, .int (iI 0), .int (iI 0), .int (iI 0), .int (iI 0), .int (iI 0), .int (iI 0), .int (iI (-1)), .int (iI (-1)), .int (iI 0), .int (iI 0), .ref q9])), (q1, oC cA2 5 f20), (q3, oC cA4 16 f36), (q5, oC cA6 5 (fun _ => none)), (q7, rC), (q8, rC), (q9, zC cA10 16 (fun _ => 0)), (q11, hC), (q13, hC), (q15, hC), (q17, hC), (q19, hC), (q21, bC), (q23, bC), (q25, bC), (q27, bC), (q29, bC), (q31, bC), (q33, bC), (q35, bC), (q37, bC)] := hD
  refine va_astq hx hb hK hP hD hS 2 1 20 0 rfl rfl rfl rfl (by unfold vp_in; decide +kernel) dX4_init_120 (fun H locs hP hD hS => ?_)
  obtain ⟨f38, hf38⟩ : ∃ f, f = va_up f36 (Int32.toNatClampNeg (iI 8)) (some q37) := ⟨_, rfl⟩
  have hP : va_P D vwCl [(h0, .inr (4, [.ref q1, .ref q3, .ref q5, .int (iI 0), .int (iI 0), .int (iI 0), .ref q7, .ref q8, .int (iI 0), .int (iI 0), .int (iI 0), .int (iI 0), .int (iI 0), .int (iI 0), .int (iI (-1)), .int (iI (-1)), .int (iI 0), .int (iI 0), .ref q9])), (q1, oC cA2 5 f20), (q3, oC cA4 16 (va_up f36 (Int32.toNatClampNeg (iI 8)) (some q37))), (q5, oC cA6 5 (fun _ => none)), (q7, rC), (q8, rC), (q9, zC cA10 16 (fun _ => 0)), (q11, hC), (q13, hC), (q15, hC), (q17, hC), (q19, hC), (q21, bC), (q23, bC), (q25, bC), (q27, bC), (q29, bC), (q31, bC), (q33, bC), (q35, bC), (q37, bC)] H := hP
  have hD : va_D A [(h0, .inr (4, [.ref q1, .ref q3, .ref q5, .int (iI 0), .int (iI 0), .int (iI 0), .ref q7, .ref q8, .int (iI 0), .int (iI 0), .int (iI 0), .int (iI 0), .int (iI 0), .int (iI 0), .int (iI (-1)), .int (iI (-1)), .int (iI 0), .int (iI 0), .ref q9])), (q1, oC cA2 5 f20), (q3, oC cA4 16 (va_up f36 (Int32.toNatClampNeg (iI 8)) (some q37))), (q5, oC cA6 5 (fun _ => none)), (q7, rC), (q8, rC), (q9, zC cA10 16 (fun _ => 0)), (q11, hC), (q13, hC), (q15, hC), (q17, hC), (q19, hC), (q21, bC), (q23, bC), (q25, bC), (q27, bC), (q29, bC), (q31, bC), (q33, bC), (q35, bC), (q37, bC)] := hD
  rw [← hf38] at hP hD
  refine lv_iinc (v := iI 9) (lv' := [(1, .int (iI 9)), (0, .ref h0)]) hx hb dX4_init_121 hl (k := 0) rfl (by decide) (by decide) rfl (fun ls hl => ?_)
  refine lv_goto (tgt := 102) hx hb dX4_init_124 (by decide) ?_
  refine lv_iload_n hx hb dX4_init_102 rfl (lv_at hl 0 rfl) ?_
  refine lv_bipush (v := iI 16) hx hb dX4_init_103 (by decide) ?_
  refine n_icmp_ge hx hb (by unfold RI; omega) (by unfold RI; omega) (tgt := 127) dX4_init_105 (by decide) (fun h => absurd h (by decide)) (fun _ => ?_)
  refine lv_aload_n hx hb dX4_init_108 rfl (lv_at hl 1 rfl) ?_
  refine va_get (D := D) (ci := 4) (v := .ref q3) (C := RX4) (T := TX4) (N := 19) hx hb hw hin_wsX40 hown hK hP 0 rfl rfl 1 (by decide) (hw _ kw_17) (fun _ h9 => h9) rfl dX4_init_109 ?_
  refine lv_iload_n hx hb dX4_init_112 rfl (lv_at hl 0 rfl) ?_
  refine va_new (ci := 0) (fs := [.int (iI 0), .int (iI 0), .int (iI 0), .int (iI 0), .int (iI 0), .int (iI 0), .int (iI 0), .int (iI 0), .int (iI 0), .int (iI 0), .int (iI 0)]) (C := RX0) (T := TX0) (N := 11) hx hb hw hin_wsX00 tyX0 tyX0_ok hown (hw _ kw_16) (hw _ kw_31) (hw _ kw_32) hK hP hD hS hA rfl (fun j hj => by rcases (show j = 0 ∨ j = 1 ∨ j = 2 ∨ j = 3 ∨ j = 4 ∨ j = 5 ∨ j = 6 ∨ j = 7 ∨ j = 8 ∨ j = 9 ∨ j = 10 by omega) with rfl | rfl | rfl | rfl | rfl | rfl | rfl | rfl | rfl | rfl | rfl <;> rfl) (Nat.le_of_ble_eq_true rfl) (Nat.le_of_ble_eq_true rfl) dX4_init_113 (fun q39 H hP hD hS => ?_)
  have hP : va_P D vwCl [(h0, .inr (4, [.ref q1, .ref q3, .ref q5, .int (iI 0), .int (iI 0), .int (iI 0), .ref q7, .ref q8, .int (iI 0), .int (iI 0), .int (iI 0), .int (iI 0), .int (iI 0), .int (iI 0), .int (iI (-1)), .int (iI (-1)), .int (iI 0), .int (iI 0), .ref q9])), (q1, oC cA2 5 f20), (q3, oC cA4 16 f38), (q5, oC cA6 5 (fun _ => none)), (q7, rC), (q8, rC), (q9, zC cA10 16 (fun _ => 0)), (q11, hC), (q13, hC), (q15, hC), (q17, hC), (q19, hC), (q21, bC), (q23, bC), (q25, bC), (q27, bC), (q29, bC), (q31, bC), (q33, bC), (q35, bC), (q37, bC), (q39, bC0)] H := hP
  have hD : va_D A [(h0, .inr (4, [.ref q1, .ref q3, .ref q5, .int (iI 0), .int (iI 0), .int (iI 0), .ref q7, .ref q8, .int (iI 0), .int (iI 0), .int (iI 0), .int (iI 0), .int (iI 0), .int (iI 0), .int (iI (-1)), .int (iI (-1)), .int (iI 0), .int (iI 0), .ref q9])), (q1, oC cA2 5 f20), (q3, oC cA4 16 f38), (q5, oC cA6 5 (fun _ => none)), (q7, rC), (q8, rC), (q9, zC cA10 16 (fun _ => 0)), (q11, hC), (q13, hC), (q15, hC), (q17, hC), (q19, hC), (q21, bC), (q23, bC), (q25, bC), (q27, bC), (q29, bC), (q31, bC), (q33, bC), (q35, bC), (q37, bC), (q39, bC0)] := hD
  refine W.widen (k := 21) (n := 170) (Nat.le_of_ble_eq_true rfl) (Nat.le_of_ble_eq_true rfl) ?_
  refine lv_dup hx hb dX4_init_116 rfl ?_
  have hPc := hP.sub (ws' := [(q39, bC0)]) [21] rfl
  have hKc := hK.sub (tys' := []) [] rfl
  have hDc := hD.sub (ws' := [(q39, bC0)]) [21] (by decide) rfl
  have hFc := va_free (wc := [(q39, bC0)]) hD hS hA [21] rfl
  refine va_callv (va_runIN (As := []) (rest := [.ref q39, .int (iI 9), .ref q3]) ⟨hx, hb, hml, hown, hw⟩ (n_Book l D q39 H.size) ⟨va_cnB 0 hw (gA_c kw_47) rfl rfl rfl hE.1.2.2.1 (hw _ kw_32) (by decide +kernel) ⟨Nat.le_of_ble_eq_true rfl, Nat.le_of_ble_eq_true rfl⟩, rfl, (hw _ kw_46)⟩ (cS_s (As := [.ref q39]) hPc hDc hKc hE) rfl rfl hl.1 rfl (lv_room (Nat.le_of_ble_eq_true rfl)) dX4_init_117 ⟨Nat.le_of_ble_eq_true rfl, Nat.le_of_ble_eq_true rfl⟩) hS (fun q _ h => hFc q h) hFc (fun u t H1 locs ht hvm hw9 hB9 hz1 hk1 hS => ?_)
  obtain ⟨hP1, hD1⟩ := hB9
  rw [ht] at hP1
  obtain ⟨hP, hD⟩ := va_join (wr := [(h0, .inr (4, [.ref q1, .ref q3, .ref q5, .int (iI 0), .int (iI 0), .int (iI 0), .ref q7, .ref q8, .int (iI 0), .int (iI 0), .int (iI 0), .int (iI 0), .int (iI 0), .int (iI 0), .int (iI (-1)), .int (iI (-1)), .int (iI 0), .int (iI 0), .ref q9])), (q1, oC cA2 5 f20), (q3, oC cA4 16 f38), (q5, oC cA6 5 (fun _ => none)), (q7, rC), (q8, rC), (q9, zC cA10 16 (fun _ => 0)), (q11, hC), (q13, hC), (q15, hC), (q17, hC), (q19, hC), (q21, bC), (q23, bC), (q25, bC), (q27, bC), (q29, bC), (q31, bC), (q33, bC), (q35, bC), (q37, bC)]) (w1 := [(q39, bC)]) hP hD [21] [0, 1, 2, 3, 4, 5, 6, 7, 8, 9, 10, 11, 12, 13, 14, 15, 16, 17, 18, 19, 20] rfl rfl (by decide) (by decide) hk1 hFc hP1 hD1
  generalize H1 = H at hP hS ⊢
  have hP : va_P D vwCl [(h0, .inr (4, [.ref q1, .ref q3, .ref q5, .int (iI 0), .int (iI 0), .int (iI 0), .ref q7, .ref q8, .int (iI 0), .int (iI 0), .int (iI 0), .int (iI 0), .int (iI 0), .int (iI 0), .int (iI (-1)), .int (iI (-1)), .int (iI 0), .int (iI 0), .ref q9])), (q1, oC cA2 5 f20), (q3, oC cA4 16 f38), (q5, oC cA6 5 (fun _ => none)), (q7, rC), (q8, rC), (q9, zC cA10 16 (fun _ => 0)), (q11, hC), (q13, hC), (q15, hC), (q17, hC), (q19, hC), (q21, bC), (q23, bC), (q25, bC), (q27, bC), (q29, bC), (q31, bC), (q33, bC), (q35, bC), (q37, bC), (q39, bC)] H := hP
  have hD : va_D A [(h0, .inr (4, [.ref q1, .ref q3, .ref q5, .int (iI 0), .int (iI 0), .int (iI 0), .ref q7, .ref q8, .int (iI 0), .int (iI 0), .int (iI 0), .int (iI 0), .int (iI 0), .int (iI 0), .int (iI (-1)), .int (iI (-1)), .int (iI 0), .int (iI 0), .ref q9])), (q1, oC cA2 5 f20), (q3, oC cA4 16 f38), (q5, oC cA6 5 (fun _ => none)), (q7, rC), (q8, rC), (q9, zC cA10 16 (fun _ => 0)), (q11, hC), (q13, hC), (q15, hC), (q17, hC), (q19, hC), (q21, bC), (q23, bC), (q25, bC), (q27, bC), (q29, bC), (q31, bC), (q33, bC), (q35, bC), (q37, bC), (q39, bC)] := hD
  refine va_astq hx hb hK hP hD hS 2 1 21 0 rfl rfl rfl rfl (by unfold vp_in; decide +kernel) dX4_init_120 (fun H locs hP hD hS => ?_)
  obtain ⟨f40, hf40⟩ : ∃ f, f = va_up f38 (Int32.toNatClampNeg (iI 9)) (some q39) := ⟨_, rfl⟩
  have hP : va_P D vwCl [(h0, .inr (4, [.ref q1, .ref q3, .ref q5, .int (iI 0), .int (iI 0), .int (iI 0), .ref q7, .ref q8, .int (iI 0), .int (iI 0), .int (iI 0), .int (iI 0), .int (iI 0), .int (iI 0), .int (iI (-1)), .int (iI (-1)), .int (iI 0), .int (iI 0), .ref q9])), (q1, oC cA2 5 f20), (q3, oC cA4 16 (va_up f38 (Int32.toNatClampNeg (iI 9)) (some q39))), (q5, oC cA6 5 (fun _ => none)), (q7, rC), (q8, rC), (q9, zC cA10 16 (fun _ => 0)), (q11, hC), (q13, hC), (q15, hC), (q17, hC), (q19, hC), (q21, bC), (q23, bC), (q25, bC), (q27, bC), (q29, bC), (q31, bC), (q33, bC), (q35, bC), (q37, bC), (q39, bC)] H := hP
  have hD : va_D A [(h0, .inr (4, [.ref q1, .ref q3, .ref q5, .int (iI 0), .int (iI 0), .int (iI 0), .ref q7, .ref q8, .int (iI 0), .int (iI 0), .int (iI 0), .int (iI 0), .int (iI 0), .int (iI 0), .int (iI (-1)), .int (iI (-1)), .int (iI 0), .int (iI 0), .ref q9])), (q1, oC cA2 5 f20), (q3, oC cA4 16 (va_up f38 (Int32.toNatClampNeg (iI 9)) (some q39))), (q5, oC cA6 5 (fun _ => none)), (q7, rC), (q8, rC), (q9, zC cA10 16 (fun _ => 0)), (q11, hC), (q13, hC), (q15, hC), (q17, hC), (q19, hC), (q21, bC), (q23, bC), (q25, bC), (q27, bC), (q29, bC), (q31, bC), (q33, bC), (q35, bC), (q37, bC), (q39, bC)] := hD
  rw [← hf40] at hP hD
  refine lv_iinc (v := iI 10) (lv' := [(1, .int (iI 10)), (0, .ref h0)]) hx hb dX4_init_121 hl (k := 0) rfl (by decide) (by decide) rfl (fun ls hl => ?_)
  refine lv_goto (tgt := 102) hx hb dX4_init_124 (by decide) ?_
  refine lv_iload_n hx hb dX4_init_102 rfl (lv_at hl 0 rfl) ?_
  refine lv_bipush (v := iI 16) hx hb dX4_init_103 (by decide) ?_
  refine n_icmp_ge hx hb (by unfold RI; omega) (by unfold RI; omega) (tgt := 127) dX4_init_105 (by decide) (fun h => absurd h (by decide)) (fun _ => ?_)
  refine lv_aload_n hx hb dX4_init_108 rfl (lv_at hl 1 rfl) ?_
  refine va_get (D := D) (ci := 4) (v := .ref q3) (C := RX4) (T := TX4) (N := 19) hx hb hw hin_wsX40 hown hK hP 0 rfl rfl 1 (by decide) (hw _ kw_17) (fun _ h9 => h9) rfl dX4_init_109 ?_
  refine lv_iload_n hx hb dX4_init_112 rfl (lv_at hl 0 rfl) ?_
  refine va_new (ci := 0) (fs := [.int (iI 0), .int (iI 0), .int (iI 0), .int (iI 0), .int (iI 0), .int (iI 0), .int (iI 0), .int (iI 0), .int (iI 0), .int (iI 0), .int (iI 0)]) (C := RX0) (T := TX0) (N := 11) hx hb hw hin_wsX00 tyX0 tyX0_ok hown (hw _ kw_16) (hw _ kw_31) (hw _ kw_32) hK hP hD hS hA rfl (fun j hj => by rcases (show j = 0 ∨ j = 1 ∨ j = 2 ∨ j = 3 ∨ j = 4 ∨ j = 5 ∨ j = 6 ∨ j = 7 ∨ j = 8 ∨ j = 9 ∨ j = 10 by omega) with rfl | rfl | rfl | rfl | rfl | rfl | rfl | rfl | rfl | rfl | rfl <;> rfl) (Nat.le_of_ble_eq_true rfl) (Nat.le_of_ble_eq_true rfl) dX4_init_113 (fun q41 H hP hD hS => ?_)
  have hP : va_P D vwCl [(h0, .inr (4, [.ref q1, .ref q3, .ref q5, .int (iI 0), .int (iI 0), .int (iI 0), .ref q7, .ref q8, .int (iI 0), .int (iI 0), .int (iI 0), .int (iI 0), .int (iI 0), .int (iI 0), .int (iI (-1)), .int (iI (-1)), .int (iI 0), .int (iI 0), .ref q9])), (q1, oC cA2 5 f20), (q3, oC cA4 16 f40), (q5, oC cA6 5 (fun _ => none)), (q7, rC), (q8, rC), (q9, zC cA10 16 (fun _ => 0)), (q11, hC), (q13, hC), (q15, hC), (q17, hC), (q19, hC), (q21, bC), (q23, bC), (q25, bC), (q27, bC), (q29, bC), (q31, bC), (q33, bC), (q35, bC), (q37, bC), (q39, bC), (q41, bC0)] H := hP
  have hD : va_D A [(h0, .inr (4, [.ref q1, .ref q3, .ref q5, .int (iI 0), .int (iI 0), .int (iI 0), .ref q7, .ref q8, .int (iI 0), .int (iI 0), .int (iI 0), .int (iI 0), .int (iI 0), .int (iI 0), .int (iI (-1)), .int (iI (-1)), .int (iI 0), .int (iI 0), .ref q9])), (q1, oC cA2 5 f20), (q3, oC cA4 16 f40), (q5, oC cA6 5 (fun _ => none)), (q7, rC), (q8, rC), (q9, zC cA10 16 (fun _ => 0)), (q11, hC), (q13, hC), (q15, hC), (q17, hC), (q19, hC), (q21, bC), (q23, bC), (q25, bC), (q27, bC), (q29, bC), (q31, bC), (q33, bC), (q35, bC), (q37, bC), (q39, bC), (q41, bC0)] := hD
  refine W.widen (k := 22) (n := 181) (Nat.le_of_ble_eq_true rfl) (Nat.le_of_ble_eq_true rfl) ?_
  refine lv_dup hx hb dX4_init_116 rfl ?_
  have hPc := hP.sub (ws' := [(q41, bC0)]) [22] rfl
  have hKc := hK.sub (tys' := []) [] rfl
  have hDc := hD.sub (ws' := [(q41, bC0)]) [22] (by decide) rfl
  have hFc := va_free (wc := [(q41, bC0)]) hD hS hA [22] rfl
  refine va_callv (va_runIN (As := []) (rest := [.ref q41, .int (iI 10), .ref q3]) ⟨hx, hb, hml, hown, hw⟩ (n_Book l D q41 H.size) ⟨va_cnB 0 hw (gA_c kw_47) rfl rfl rfl hE.1.2.2.1 (hw _ kw_32) (by decide +kernel) ⟨Nat.le_of_ble_eq_true rfl, Nat.le_of_ble_eq_true rfl⟩, rfl, (hw _ kw_46)⟩ (cS_s (As := [.ref q41]) hPc hDc hKc hE) rfl rfl hl.1 rfl (lv_room (Nat.le_of_ble_eq_true rfl)) dX4_init_117 ⟨Nat.le_of_ble_eq_true rfl, Nat.le_of_ble_eq_true rfl⟩) hS (fun q _ h => hFc q h) hFc (fun u t H1 locs ht hvm hw9 hB9 hz1 hk1 hS => ?_)
  obtain ⟨hP1, hD1⟩ := hB9
  rw [ht] at hP1
  obtain ⟨hP, hD⟩ := va_join (wr := [(h0, .inr (4, [.ref q1, .ref q3, .ref q5, .int (iI 0), .int (iI 0), .int (iI 0), .ref q7, .ref q8, .int (iI 0), .int (iI 0), .int (iI 0), .int (iI 0), .int (iI 0), .int (iI 0), .int (iI (-1)), .int (iI (-1)), .int (iI 0), .int (iI 0), .ref q9])), (q1, oC cA2 5 f20), (q3, oC cA4 16 f40), (q5, oC cA6 5 (fun _ => none)), (q7, rC), (q8, rC), (q9, zC cA10 16 (fun _ => 0)), (q11, hC), (q13, hC), (q15, hC), (q17, hC), (q19, hC), (q21, bC), (q23, bC), (q25, bC), (q27, bC), (q29, bC), (q31, bC), (q33, bC), (q35, bC), (q37, bC), (q39, bC)]) (w1 := [(q41, bC)]) hP hD [22] [0, 1, 2, 3, 4, 5, 6, 7, 8, 9, 10, 11, 12, 13, 14, 15, 16, 17, 18, 19, 20, 21] rfl rfl (by decide) (by decide) hk1 hFc hP1 hD1
  generalize H1 = H at hP hS ⊢
  have hP : va_P D vwCl [(h0, .inr (4, [.ref q1, .ref q3, .ref q5, .int (iI 0), .int (iI 0), .int (iI 0), .ref q7, .ref q8, .int (iI 0), .int (iI 0), .int (iI 0), .int (iI 0), .int (iI 0), .int (iI 0), .int (iI (-1)), .int (iI (-1)), .int (iI 0), .int (iI 0), .ref q9])), (q1, oC cA2 5 f20), (q3, oC cA4 16 f40), (q5, oC cA6 5 (fun _ => none)), (q7, rC), (q8, rC), (q9, zC cA10 16 (fun _ => 0)), (q11, hC), (q13, hC), (q15, hC), (q17, hC), (q19, hC), (q21, bC), (q23, bC), (q25, bC), (q27, bC), (q29, bC), (q31, bC), (q33, bC), (q35, bC), (q37, bC), (q39, bC), (q41, bC)] H := hP
  have hD : va_D A [(h0, .inr (4, [.ref q1, .ref q3, .ref q5, .int (iI 0), .int (iI 0), .int (iI 0), .ref q7, .ref q8, .int (iI 0), .int (iI 0), .int (iI 0), .int (iI 0), .int (iI 0), .int (iI 0), .int (iI (-1)), .int (iI (-1)), .int (iI 0), .int (iI 0), .ref q9])), (q1, oC cA2 5 f20), (q3, oC cA4 16 f40), (q5, oC cA6 5 (fun _ => none)), (q7, rC), (q8, rC), (q9, zC cA10 16 (fun _ => 0)), (q11, hC), (q13, hC), (q15, hC), (q17, hC), (q19, hC), (q21, bC), (q23, bC), (q25, bC), (q27, bC), (q29, bC), (q31, bC), (q33, bC), (q35, bC), (q37, bC), (q39, bC), (q41, bC)] := hD
  refine va_astq hx hb hK hP hD hS 2 1 22 0 rfl rfl rfl rfl (by unfold vp_in; decide +kernel) dX4_init_120 (fun H locs hP hD hS => ?_)
  obtain ⟨f42, hf42⟩ : ∃ f, f = va_up f40 (Int32.toNatClampNeg (iI 10)) (some q41) := ⟨_, rfl⟩
  have hP : va_P D vwCl [(h0, .inr (4, [.ref q1, .ref q3, .ref q5, .int (iI 0), .int (iI 0), .int (iI 0), .ref q7, .ref q8, .int (iI 0), .int (iI 0), .int (iI 0), .int (iI 0), .int (iI 0), .int (iI 0), .int (iI (-1)), .int (iI (-1)), .int (iI 0), .int (iI 0), .ref q9])), (q1, oC cA2 5 f20), (q3, oC cA4 16 (va_up f40 (Int32.toNatClampNeg (iI 10)) (some q41))), (q5, oC cA6 5 (fun _ => none)), (q7, rC), (q8, rC), (q9, zC cA10 16 (fun _ => 0)), (q11, hC), (q13, hC), (q15, hC), (q17, hC), (q19, hC), (q21, bC), (q23, bC), (q25, bC), (q27, bC), (q29, bC), (q31, bC), (q33, bC), (q35, bC), (q37, bC), (q39, bC), (q41, bC)] H := hP
  have hD : va_D A [(h0, .inr (4, [.ref q1, .ref q3, .ref q5, .int (iI 0), .int (iI 0), .int (iI 0), .ref q7, .ref q8, .int (iI 0), .int (iI 0), .int (iI 0), .int (iI 0), .int (iI 0), .int (iI 0), .int (iI (-1)), .int (iI (-1)), .int (iI 0), .int (iI 0), .ref q9])), (q1, oC cA2 5 f20), (q3, oC cA4 16 (va_up f40 (Int32.toNatClampNeg (iI 10)) (some q41))), (q5, oC cA6 5 (fun _ => none)), (q7, rC), (q8, rC), (q9, zC cA10 16 (fun _ => 0)), (q11, hC), (q13, hC), (q15, hC), (q17, hC), (q19, hC), (q21, bC), (q23, bC), (q25, bC), (q27, bC), (q29, bC), (q31, bC), (q33, bC), (q35, bC), (q37, bC), (q39, bC), (q41, bC)] := hD
  rw [← hf42] at hP hD
  refine lv_iinc (v := iI 11) (lv' := [(1, .int (iI 11)), (0, .ref h0)]) hx hb dX4_init_121 hl (k := 0) rfl (by decide) (by decide) rfl (fun ls hl => ?_)
  refine lv_goto (tgt := 102) hx hb dX4_init_124 (by decide) ?_
  refine lv_iload_n hx hb dX4_init_102 rfl (lv_at hl 0 rfl) ?_
  refine lv_bipush (v := iI 16) hx hb dX4_init_103 (by decide) ?_
  refine n_icmp_ge hx hb (by unfold RI; omega) (by unfold RI; omega) (tgt := 127) dX4_init_105 (by decide) (fun h => absurd h (by decide)) (fun _ => ?_)
  refine lv_aload_n hx hb dX4_init_108 rfl (lv_at hl 1 rfl) ?_
  refine va_get (D := D) (ci := 4) (v := .ref q3) (C := RX4) (T := TX4) (N := 19) hx hb hw hin_wsX40 hown hK hP 0 rfl rfl 1 (by decide) (hw _ kw_17) (fun _ h9 => h9) rfl dX4_init_109 ?_
  refine lv_iload_n hx hb dX4_init_112 rfl (lv_at hl 0 rfl) ?_
  refine va_new (ci := 0) (fs := [.int (iI 0), .int (iI 0), .int (iI 0), .int (iI 0), .int (iI 0), .int (iI 0), .int (iI 0), .int (iI 0), .int (iI 0), .int (iI 0), .int (iI 0)]) (C := RX0) (T := TX0) (N := 11) hx hb hw hin_wsX00 tyX0 tyX0_ok hown (hw _ kw_16) (hw _ kw_31) (hw _ kw_32) hK hP hD hS hA rfl (fun j hj => by rcases (show j = 0 ∨ j = 1 ∨ j = 2 ∨ j = 3 ∨ j = 4 ∨ j = 5 ∨ j = 6 ∨ j = 7 ∨ j = 8 ∨ j = 9 ∨ j = 10 by omega) with rfl | rfl | rfl | rfl | rfl | rfl | rfl | rfl | rfl | rfl | rfl <;> rfl) (Nat.le_of_ble_eq_true rfl) (Nat.le_of_ble_eq_true rfl) dX4_init_113 (fun q43 H hP hD hS => ?_)
  have hP : va_P D vwCl [(h0, .inr (4, [.ref q1, .ref q3, .ref q5, .int (iI 0), .int (iI 0), .int (iI 0), .ref q7, .ref q8, .int (iI 0), .int (iI 0), .int (iI 0), .int (iI 0), .int (iI 0), .int (iI 0), .int (iI (-1)), .int (iI (-1)), .int (iI 0), .int (iI 0), .ref q9])), (q1, oC cA2 5 f20), (q3, oC cA4 16 f42), (q5, oC cA6 5 (fun _ => none)), (q7, rC), (q8, rC), (q9, zC cA10 16 (fun _ => 0)), (q11, hC), (q13, hC), (q15, hC), (q17, hC), (q19, hC), (q21, bC), (q23, bC), (q25, bC), (q27, bC), (q29, bC), (q31, bC), (q33, bC), (q35, bC), (q37, bC), (q39, bC), (q41, bC), (q43, bC0)] H := hP
  have hD : va_D A [(h0, .inr (4, [.ref q1, .ref q3, .ref q5, .int (iI 0), .int (iI 0), .int (iI 0), .ref q7, .ref q8, .int (iI 0), .int (iI 0), .int (iI 0), .int (iI 0), .int (iI 0), .int (iI 0), .int (iI (-1)), .int (iI (-1)), .int (iI 0), .int (iI 0), .ref q9])), (q1, oC cA2 5 f20), (q3, oC cA4 16 f42), (q5, oC cA6 5 (fun _ => none)), (q7, rC), (q8, rC), (q9, zC cA10 16 (fun _ => 0)), (q11, hC), (q13, hC), (q15, hC), (q17, hC), (q19, hC), (q21, bC), (q23, bC), (q25, bC), (q27, bC), (q29, bC), (q31, bC), (q33, bC), (q35, bC), (q37, bC), (q39, bC), (q41, bC), (q43, bC0)] := hD
  refine W.widen (k := 23) (n := 192) (Nat.le_of_ble_eq_true rfl) (Nat.le_of_ble_eq_true rfl) ?_
  refine lv_dup hx hb dX4_init_116 rfl ?_
  have hPc := hP.sub (ws' := [(q43, bC0)]) [23] rfl
  have hKc := hK.sub (tys' := []) [] rfl
  have hDc := hD.sub (ws' := [(q43, bC0)]) [23] (by decide) rfl
  have hFc := va_free (wc := [(q43, bC0)]) hD hS hA [23] rfl
  refine va_callv (va_runIN (As := []) (rest := [.ref q43, .int (iI 11), .ref q3]) ⟨hx, hb, hml, hown, hw⟩ (n_Book l D q43 H.size) ⟨va_cnB 0 hw (gA_c kw_47) rfl rfl rfl hE.1.2.2.1 (hw _ kw_32) (by decide +kernel) ⟨Nat.le_of_ble_eq_true rfl, Nat.le_of_ble_eq_true rfl⟩, rfl, (hw _ kw_46)⟩ (cS_s (As := [.ref q43]) hPc hDc hKc hE) rfl rfl hl.1 rfl (lv_room (Nat.le_of_ble_eq_true rfl)) dX4_init_117 ⟨Nat.le_of_ble_eq_true rfl, Nat.le_of_ble_eq_true rfl⟩) hS (fun q _ h => hFc q h) hFc (fun u t H1 locs ht hvm hw9 hB9 hz1 hk1 hS => ?_)
  obtain ⟨hP1, hD1⟩ := hB9
  rw [ht] at hP1
  obtain ⟨hP, hD⟩ := va_join (wr := [(h0, .inr (4, [.ref q1, .ref q3, .ref q5, .int (iI 0), .int (iI 0), .int (iI 0), .ref q7, .ref q8, .int (iI 0), .int (iI 0), .int (iI 0), .int (iI 0), .int (iI 0), .int (iI 0), .int (iI (-1)), .int (iI (-1)), .int (iI 0), .int (iI 0), .ref q9])), (q1, oC cA2 5 f20), (q3, oC cA4 16 f42), (q5, oC cA6 5 (fun _ => none)), (q7, rC), (q8, rC), (q9, zC cA10 16 (fun _ => 0)), (q11, hC), (q13, hC), (q15, hC), (q17, hC), (q19, hC), (q21, bC), (q23, bC), (q25, bC), (q27, bC), (q29, bC), (q31, bC), (q33, bC), (q35, bC), (q37, bC), (q39, bC), (q41, bC)]) (w1 := [(q43, bC)]) hP hD [23] [0, 1, 2, 3, 4, 5, 6, 7, 8, 9, 10, 11, 12, 13, 14, 15, 16, 17, 18, 19, 20, 21, 22] rfl rfl (by decide) (by decide) hk1 hFc hP1 hD1
  generalize H1 = H at hP hS ⊢
  have hP : va_P D vwCl [(h0, .inr (4, [.ref q1, .ref q3, .ref q5, .int (iI 0), .int (iI 0), .int (iI 0), .ref q7, .ref q8, .int (iI 0), .int (iI 0), .int (iI 0), .int (iI 0), .int (iI 0), .int (iI 0), .int (iI (-1)), .int (iI (-1)), .int (iI 0), .int (iI 0), .ref q9])), (q1, oC cA2 5 f20), (q3, oC cA4 16 f42), (q5, oC cA6 5 (fun _ => none)), (q7, rC), (q8, rC), (q9, zC cA10 16 (fun _ => 0)), (q11, hC), (q13, hC), (q15, hC), (q17, hC), (q19, hC), (q21, bC), (q23, bC), (q25, bC), (q27, bC), (q29, bC), (q31, bC), (q33, bC), (q35, bC), (q37, bC), (q39, bC), (q41, bC), (q43, bC)] H := hP
  have hD : va_D A [(h0, .inr (4, [.ref q1, .ref q3, .ref q5, .int (iI 0), .int (iI 0), .int (iI 0), .ref q7, .ref q8, .int (iI 0), .int (iI 0), .int (iI 0), .int (iI 0), .int (iI 0), .int (iI 0), .int (iI (-1)), .int (iI (-1)), .int (iI 0), .int (iI 0), .ref q9])), (q1, oC cA2 5 f20), (q3, oC cA4 16 f42), (q5, oC cA6 5 (fun _ => none)), (q7, rC), (q8, rC), (q9, zC cA10 16 (fun _ => 0)), (q11, hC), (q13, hC), (q15, hC), (q17, hC), (q19, hC), (q21, bC), (q23, bC), (q25, bC), (q27, bC), (q29, bC), (q31, bC), (q33, bC), (q35, bC), (q37, bC), (q39, bC), (q41, bC), (q43, bC)] := hD
  refine va_astq hx hb hK hP hD hS 2 1 23 0 rfl rfl rfl rfl (by unfold vp_in; decide +kernel) dX4_init_120 (fun H locs hP hD hS => ?_)
  obtain ⟨f44, hf44⟩ : ∃ f, f = va_up f42 (Int32.toNatClampNeg (iI 11)) (some q43) := ⟨_, rfl⟩
  have hP : va_P D vwCl [(h0, .inr (4, [.ref q1, .ref q3, .ref q5, .int (iI 0), .int (iI 0), .int (iI 0), .ref q7, .ref q8, .int (iI 0), .int (iI 0), .int (iI 0), .int (iI 0), .int (iI 0), .int (iI 0), .int (iI (-1)), .int (iI (-1)), .int (iI 0), .int (iI 0), .ref q9])), (q1, oC cA2 5 f20), (q3, oC cA4 16 (va_up f42 (Int32.toNatClampNeg (iI 11)) (some q43))), (q5, oC cA6 5 (fun _ => none)), (q7, rC), (q8, rC), (q9, zC cA10 16 (fun _ => 0)), (q11, hC), (q13, hC), (q15, hC), (q17, hC), (q19, hC), (q21, bC), (q23, bC), (q25, bC), (q27, bC), (q29, bC), (q31, bC), (q33, bC), (q35, bC), (q37, bC), (q39, bC), (q41, bC), (q43, bC)] H := hP
  have hD : va_D A [(h0, .inr (4, [.ref q1, .ref q3, .ref q5, .int (iI 0), .int (iI 0), .int (iI 0), .ref q7, .ref q8, .int (iI 0), .int (iI 0), .int (iI 0), .int (iI 0), .int (iI 0), .int (iI 0), .int (iI (-1)), .int (iI (-1)), .int (iI 0), .int (iI 0), .ref q9])), (q1, oC cA2 5 f20), (q3, oC cA4 16 (va_up f42 (Int32.toNatClampNeg (iI 11)) (some q43))), (q5, oC cA6 5 (fun _ => none)), (q7, rC), (q8, rC), (q9, zC cA10 16 (fun _ => 0)), (q11, hC), (q13, hC), (q15, hC), (q17, hC), (q19, hC), (q21, bC), (q23, bC), (q25, bC), (q27, bC), (q29, bC), (q31, bC), (q33, bC), (q35, bC), (q37, bC), (q39, bC), (q41, bC), (q43, bC)] := hD
  rw [← hf44] at hP hD
  refine lv_iinc (v := iI 12) (lv' := [(1, .int (iI 12)), (0, .ref h0)]) hx hb dX4_init_121 hl (k := 0) rfl (by decide) (by decide) rfl (fun ls hl => ?_)
  refine lv_goto (tgt := 102) hx hb dX4_init_124 (by decide) ?_
  refine lv_iload_n hx hb dX4_init_102 rfl (lv_at hl 0 rfl) ?_
  refine lv_bipush (v := iI 16) hx hb dX4_init_103 (by decide) ?_
  refine n_icmp_ge hx hb (by unfold RI; omega) (by unfold RI; omega) (tgt := 127) dX4_init_105 (by decide) (fun h => absurd h (by decide)) (fun _ => ?_)
  refine lv_aload_n hx hb dX4_init_108 rfl (lv_at hl 1 rfl) ?_
  refine va_get (D := D) (ci := 4) (v := .ref q3) (C := RX4) (T := TX4) (N := 19) hx hb hw hin_wsX40 hown hK hP 0 rfl rfl 1 (by decide) (hw _ kw_17) (fun _ h9 => h9) rfl dX4_init_109 ?_
  refine lv_iload_n hx hb dX4_init_112 rfl (lv_at hl 0 rfl) ?_
  refine va_new (ci := 0) (fs := [.int (iI 0), .int (iI 0), .int (iI 0), .int (iI 0), .int (iI 0), .int (iI 0), .int (iI 0), .int (iI 0), .int (iI 0), .int (iI 0), .int (iI 0)]) (C := RX0) (T := TX0) (N := 11) hx hb hw hin_wsX00 tyX0 tyX0_ok hown (hw _ kw_16) (hw _ kw_31) (hw _ kw_32) hK hP hD hS hA rfl (fun j hj => by rcases (show j = 0 ∨ j = 1 ∨ j = 2 ∨ j = 3 ∨ j = 4 ∨ j = 5 ∨ j = 6 ∨ j = 7 ∨ j = 8 ∨ j = 9 ∨ j = 10 by omega) with rfl | rfl | rfl | rfl | rfl | rfl | rfl | rfl | rfl | rfl | rfl <;> rfl) (Nat.le_of_ble_eq_true rfl) (Nat.le_of_ble_eq_true rfl) dX4_init_113 (fun q45 H hP hD hS => ?_)
  have hP : va_P D vwCl [(h0, .inr (4, [.ref q1, .ref q3, .ref q5, .int (iI 0), .int (iI 0), .int (iI 0), .ref q7, .ref q8, .int (iI 0), .int (iI 0), .int (iI 0), .int (iI 0), .int (iI 0), .int (iI 0), .int (iI (-1)), .int (iI (-1)), .int (iI 0), .int (iI 0), .ref q9])), (q1, oC cA2 5 f20), (q3, oC cA4 16 f44), (q5, oC cA6 5 (fun _ => none)), (q7, rC), (q8, rC), (q9, zC cA10 16 (fun _ => 0)), (q11, hC), (q13, hC), (q15, hC), (q17, hC), (q19, hC), (q21, bC), (q23, bC), (q25, bC), (q27, bC), (q29, bC), (q31, bC), (q33, bC), (q35, bC), (q37, bC), (q39, bC), (q41, bC), (q43, bC), (q45, bC0)] H := hP
  have hD : va_D A [(h0, .inr (4, [.ref q1, .ref q3, .ref q5, .int (iI 0), .int (iI 0), .int (iI 0), .ref q7, .ref q8, .int (iI 0), .int (iI 0), .int (iI 0), .int (iI 0), .int (iI 0), .int (iI 0), .int (iI (-1)), .int (iI (-1)), .int (iI 0), .int (iI 0), .ref q9])), (q1, oC cA2 5 f20), (q3, oC cA4 16 f44), (q5, oC cA6 5 (fun _ => none)), (q7, rC), (q8, rC), (q9, zC cA10 16 (fun _ => 0)), (q11, hC), (q13, hC), (q15, hC), (q17, hC), (q19, hC), (q21, bC), (q23, bC), (q25, bC), (q27, bC), (q29, bC), (q31, bC), (q33, bC), (q35, bC), (q37, bC), (q39, bC), (q41, bC), (q43, bC), (q45, bC0)] := hD
  refine W.widen (k := 24) (n := 203) (Nat.le_of_ble_eq_true rfl) (Nat.le_of_ble_eq_true rfl) ?_
  refine lv_dup hx hb dX4_init_116 rfl ?_
  have hPc := hP.sub (ws' := [(q45, bC0)]) [24] rfl
  have hKc := hK.sub (tys' := []) [] rfl
  have hDc := hD.sub (ws' := [(q45, bC0)]) [24] (by decide) rfl
  have hFc := va_free (wc := [(q45, bC0)]) hD hS hA [24] rfl
  refine va_callv (va_runIN (As := []) (rest := [.ref q45, .int (iI 12), .ref q3]) ⟨hx, hb, hml, hown, hw⟩ (n_Book l D q45 H.size) ⟨va_cnB 0 hw (gA_c kw_47) rfl rfl rfl hE.1.2.2.1 (hw _ kw_32) (by decide +kernel) ⟨Nat.le_of_ble_eq_true rfl, Nat.le_of_ble_eq_true rfl⟩, rfl, (hw _ kw_46)⟩ (cS_s (As := [.ref q45]) hPc hDc hKc hE) rfl rfl hl.1 rfl (lv_room (Nat.le_of_ble_eq_true rfl)) dX4_init_117 ⟨Nat.le_of_ble_eq_true rfl, Nat.le_of_ble_eq_true rfl⟩) hS (fun q _ h => hFc q h) hFc (fun u t H1 locs ht hvm hw9 hB9 hz1 hk1 hS => ?_)
  obtain ⟨hP1, hD1⟩ := hB9
  rw [ht] at hP1
  obtain ⟨hP, hD⟩ := va_join (wr := [(h0, .inr (4, [.ref q1, .ref q3, .ref q5, .int (iI 0), .int (iI 0), .int (iI 0), .ref q7, .ref q8, .int (iI 0), .int (iI 0), .int (iI 0), .int (iI 0), .int (iI 0), .int (iI 0), .int (iI (-1)), .int (iI (-1)), .int (iI 0), .int (iI 0), .ref q9])), (q1, oC cA2 5 f20), (q3, oC cA4 16 f44), (q5, oC cA6 5 (fun _ => none)), (q7, rC), (q8, rC), (q9, zC cA10 16 (fun _ => 0)), (q11, hC), (q13, hC), (q15, hC), (q17, hC), (q19, hC), (q21, bC), (q23, bC), (q25, bC), (q27, bC), (q29, bC), (q31, bC), (q33, bC), (q35, bC), (q37, bC), (q39, bC), (q41, bC), (q43, bC)]) (w1 := [(q45, bC)]) hP hD [24] [0, 1, 2, 3, 4, 5, 6, 7, 8, 9, 10, 11, 12, 13, 14, 15, 16, 17, 18, 19, 20, 21, 22, 23] rfl rfl (by decide) (by decide) hk1 hFc hP1 hD1
  generalize H1 = H at hP hS ⊢
  have hP : va_P D vwCl [(h0, .inr (4, [.ref q1, .ref q3, .ref q5, .int (iI 0), .int (iI 0), .int (iI 0), .ref q7, .ref q8, .int (iI 0), .int (iI 0), .int (iI 0), .int (iI 0), .int (iI 0), .int (iI 0), .int (iI (-1)), .int (iI (-1)), .int (iI 0), .int (iI 0), .ref q9])), (q1, oC cA2 5 f20), (q3, oC cA4 16 f44), (q5, oC cA6 5 (fun _ => none)), (q7, rC), (q8, rC), (q9, zC cA10 16 (fun _ => 0)), (q11, hC), (q13, hC), (q15, hC), (q17, hC), (q19, hC), (q21, bC), (q23, bC), (q25, bC), (q27, bC), (q29, bC), (q31, bC), (q33, bC), (q35, bC), (q37, bC), (q39, bC), (q41, bC), (q43, bC), (q45, bC)] H := hP
  have hD : va_D A [(h0, .inr (4, [.ref q1, .ref q3, .ref q5, .int (iI 0), .int (iI 0), .int (iI 0), .ref q7, .ref q8, .int (iI 0), .int (iI 0), .int (iI 0), .int (iI 0), .int (iI 0), .int (iI 0), .int (iI (-1)), .int (iI (-1)), .int (iI 0), .int (iI 0), .ref q9])), (q1, oC cA2 5 f20), (q3, oC cA4 16 f44), (q5, oC cA6 5 (fun _ => none)), (q7, rC), (q8, rC), (q9, zC cA10 16 (fun _ => 0)), (q11, hC), (q13, hC), (q15, hC), (q17, hC), (q19, hC), (q21, bC), (q23, bC), (q25, bC), (q27, bC), (q29, bC), (q31, bC), (q33, bC), (q35, bC), (q37, bC), (q39, bC), (q41, bC), (q43, bC), (q45, bC)] := hD
  refine va_astq hx hb hK hP hD hS 2 1 24 0 rfl rfl rfl rfl (by unfold vp_in; decide +kernel) dX4_init_120 (fun H locs hP hD hS => ?_)
  obtain ⟨f46, hf46⟩ : ∃ f, f = va_up f44 (Int32.toNatClampNeg (iI 12)) (some q45) := ⟨_, rfl⟩
  have hP : va_P D vwCl [(h0, .inr (4, [.ref q1, .ref q3, .ref q5, .int (iI 0), .int (iI 0), .int (iI 0), .ref q7, .ref q8, .int (iI 0), .int (iI 0), .int (iI 0), .int (iI 0), .int (iI 0), .int (iI 0), .int (iI (-1)), .int (iI (-1)), .int (iI 0), .int (iI 0), .ref q9])), (q1, oC cA2 5 f20), (q3, oC cA4 16 (va_up f44 (Int32.toNatClampNeg (iI 12)) (some q45))), (q5, oC cA6 5 (fun _ => none)), (q7, rC), (q8, rC), (q9, zC cA10 16 (fun _ => 0)), (q11, hC), (q13, hC), (q15, hC), (q17, hC), (q19, hC), (q21, bC), (q23, bC), (q25, bC), (q27, bC), (q29, bC), (q31, bC), (q33, bC), (q35, bC), (q37, bC), (q39, bC), (q41, bC), (q43, bC), (q45, bC)] H := hP
  have hD : va_D A [(h0, .inr (4, [.ref q1, .ref q3, .ref q5, .int (iI 0), .int (iI 0), .int (iI 0), .ref q7, .ref q8, .int (iI 0), .int (iI 0), .int (iI 0), .int (iI 0), .int (iI 0), .int (iI 0), .int (iI (-1)), .int (iI (-1)), .int (iI 0), .int (iI 0), .ref q9])), (q1, oC cA2 5 f20), (q3, oC cA4 16 (va_up f44 (Int32.toNatClampNeg (iI 12)) (some q45))), (q5, oC cA6 5 (fun _ => none)), (q7, rC), (q8, rC), (q9, zC cA10 16 (fun _ => 0)), (q11, hC), (q13, hC), (q15, hC), (q17, hC), (q19, hC), (q21, bC), (q23, bC), (q25, bC), (q27, bC), (q29, bC), (q31, bC), (q33, bC), (q35, bC), (q37, bC), (q39, bC), (q41, bC), (q43, bC), (q45, bC)] := hD
  rw [← hf46] at hP hD
  refine lv_iinc (v := iI 13) (lv' := [(1, .int (iI 13)), (0, .ref h0)]) hx hb dX4_init_121 hl (k := 0) rfl (by decide) (by decide) rfl (fun ls hl => ?_)
  refine lv_goto (tgt := 102) hx hb dX4_init_124 (by decide) ?_
  refine lv_iload_n hx hb dX4_init_102 rfl (lv_at hl 0 rfl) ?_
  refine lv_bipush (v := iI 16) hx hb dX4_init_103 (by decide) ?_
  refine n_icmp_ge hx hb (by unfold RI; omega) (by unfold RI; omega) (tgt := 127) dX4_init_105 (by decide) (fun h => absurd h (by decide)) (fun _ => ?_)
  refine lv_aload_n hx hb dX4_init_108 rfl (lv_at hl 1 rfl) ?_
  refine va_get (D := D) (ci := 4) (v := .ref q3) (C := RX4) (T := TX4) (N := 19) hx hb hw hin_wsX40 hown hK hP 0 rfl rfl 1 (by decide) (hw _ kw_17) (fun _ h9 => h9) rfl dX4_init_109 ?_
  refine lv_iload_n hx hb dX4_init_112 rfl (lv_at hl 0 rfl) ?_
  refine va_new (ci := 0) (fs := [.int (iI 0), .int (iI 0), .int (iI 0), .int (iI 0), .int (iI 0), .int (iI 0), .int (iI 0), .int (iI 0), .int (iI 0), .int (iI 0), .int (iI 0)]) (C := RX0) (T := TX0) (N := 11) hx hb hw hin_wsX00 tyX0 tyX0_ok hown (hw _ kw_16) (hw _ kw_31) (hw _ kw_32) hK hP hD hS hA rfl (fun j hj => by rcases (show j = 0 ∨ j = 1 ∨ j = 2 ∨ j = 3 ∨ j = 4 ∨ j = 5 ∨ j = 6 ∨ j = 7 ∨ j = 8 ∨ j = 9 ∨ j = 10 by omega) with rfl | rfl | rfl | rfl | rfl | rfl | rfl | rfl | rfl | rfl | rfl <;> rfl) (Nat.le_of_ble_eq_true rfl) (Nat.le_of_ble_eq_true rfl) dX4_init_113 (fun q47 H hP hD hS => ?_)
  have hP : va_P D vwCl [(h0, .inr (4, [.ref q1, .ref q3, .ref q5, .int (iI 0), .int (iI 0), .int (iI 0), .ref q7, .ref q8, .int (iI 0), .int (iI 0), .int (iI 0), .int (iI 0), .int (iI 0), .int (iI 0), .int (iI (-1)), .int (iI (-1)), .int (iI 0), .int (iI 0), .ref q9])), (q1, oC cA2 5 f20), (q3, oC cA4 16 f46), (q5, oC cA6 5 (fun _ => none)), (q7, rC), (q8, rC), (q9, zC cA10 16 (fun _ => 0)), (q11, hC), (q13, hC), (q15, hC), (q17, hC), (q19, hC), (q21, bC), (q23, bC), (q25, bC), (q27, bC), (q29, bC), (q31, bC), (q33, bC), (q35, bC), (q37, bC), (q39, bC), (q41, bC), (q43, bC), (q45, bC), (q47, bC0)] H := hP
  have hD : va_D A [(h0, .inr (4, [.ref q1, .ref q3, .ref q5, .int (iI 0), .int (iI 0), .int (iI 0), .ref q7, .ref q8, .int (iI 0), .int (iI 0), .int (iI 0), .int (iI 0), .int (iI 0), .int (iI 0), .int (iI (-1)), .int (iI (-1)), .int (iI 0), .int (iI 0), .ref q9])), (q1, oC cA2 5 f20), (q3, oC cA4 16 f46), (q5, oC cA6 5 (fun _ => none)), (q7, rC), (q8, rC), (q9, zC cA10 16 (fun _ => 0)), (q11, hC), (q13, hC), (q15, hC), (q17, hC), (q19, hC), (q21, bC), (q23, bC), (q25, bC), (q27, bC), (q29, bC), (q31, bC), (q33, bC), (q35, bC), (q37, bC), (q39, bC), (q41, bC), (q43, bC), (q45, bC), (q47, bC0)] := hD
  refine W.widen (k := 25) (n := 214) (Nat.le_of_ble_eq_true rfl) (Nat.le_of_ble_eq_true rfl) ?_
  refine lv_dup hx hb dX4_init_116 rfl ?_
  have hPc := hP.sub (ws' := [(q47, bC0)]) [25] rfl
  have hKc := hK.sub (tys' := []) [] rfl
  have hDc := hD.sub (ws' := [(q47, bC0)]) [25] (by decide) rfl
  have hFc := va_free (wc := [(q47, bC0)]) hD hS hA [25] rfl
  refine va_callv (va_runIN (As := []) (rest := [.ref q47, .int (iI 13), .ref q3]) ⟨hx, hb, hml, hown, hw⟩ (n_Book l D q47 H.size) ⟨va_cnB 0 hw (gA_c kw_47) rfl rfl rfl hE.1.2.2.1 (hw _ kw_32) (by decide +kernel) ⟨Nat.le_of_ble_eq_true rfl, Nat.le_of_ble_eq_true rfl⟩, rfl, (hw _ kw_46)⟩ (cS_s (As := [.ref q47]) hPc hDc hKc hE) rfl rfl hl.1 rfl (lv_room (Nat.le_of_ble_eq_true rfl)) dX4_init_117 ⟨Nat.le_of_ble_eq_true rfl, Nat.le_of_ble_eq_true rfl⟩) hS (fun q _ h => hFc q h) hFc (fun u t H1 locs ht hvm hw9 hB9 hz1 hk1 hS => ?_)
  obtain ⟨hP1, hD1⟩ := hB9
  rw [ht] at hP1
  obtain ⟨hP, hD⟩ := va_join (wr := [(h0, .inr (4, [.ref q1, .ref q3, .ref q5, .int (iI 0), .int (iI 0), .int (iI 0), .ref q7, .ref q8, .int (iI 0), .int (iI 0), .int (iI 0), .int (iI 0), .int (iI 0), .int (iI 0), .int (iI (-1)), .int (iI (-1)), .int (iI 0), .int (iI 0), .ref q9])), (q1, oC cA2 5 f20), (q3, oC cA4 16 f46), (q5, oC cA6 5 (fun _ => none)), (q7, rC), (q8, rC), (q9, zC cA10 16 (fun _ => 0)), (q11, hC), (q13, hC), (q15, hC), (q17, hC), (q19, hC), (q21, bC), (q23, bC), (q25, bC), (q27, bC), (q29, bC), (q31, bC), (q33, bC), (q35, bC), (q37, bC), (q39, bC), (q41, bC), (q43, bC), (q45, bC)]) (w1 := [(q47, bC)]) hP hD [25] [0, 1, 2, 3, 4, 5, 6, 7, 8, 9, 10, 11, 12, 13, 14, 15, 16, 17, 18, 19, 20, 21, 22, 23, 24] rfl rfl (by decide) (by decide) hk1 hFc hP1 hD1
  generalize H1 = H at hP hS ⊢
  have hP : va_P D vwCl [(h0, .inr (4, [.ref q1, .ref q3, .ref q5, .int (iI 0), .int (iI 0), .int (iI 0), .ref q7, .ref q8, .int (iI 0), .int (iI 0), .int (iI 0), .int (iI 0), .int (iI 0), .int (iI 0), .int (iI (-1)), .int (iI (-1)), .int (iI 0), .int (iI 0), .ref q9])), (q1, oC cA2 5 f20), (q3, oC cA4 16 f46), (q5, oC cA6 5 (fun _ => none)), (q7, rC), (q8, rC), (q9, zC cA10 16 (fun _ => 0)), (q11, hC), (q13, hC), (q15, hC), (q17, hC), (q19, hC), (q21, bC), (q23, bC), (q25, bC), (q27, bC), (q29, bC), (q31, bC), (q33, bC), (q35, bC), (q37, bC), (q39, bC), (q41, bC), (q43, bC), (q45, bC), (q47, bC)] H := hP
  have hD : va_D A [(h0, .inr (4, [.ref q1, .ref q3, .ref q5, .int (iI 0), .int (iI 0), .int (iI 0), .ref q7, .ref q8, .int (iI 0), .int (iI 0), .int (iI 0), .int (iI 0), .int (iI 0), .int (iI 0), .int (iI (-1)), .int (iI (-1)), .int (iI 0), .int (iI 0), .ref q9])), (q1, oC cA2 5 f20), (q3, oC cA4 16 f46), (q5, oC cA6 5 (fun _ => none)), (q7, rC), (q8, rC), (q9, zC cA10 16 (fun _ => 0)), (q11, hC), (q13, hC), (q15, hC), (q17, hC), (q19, hC), (q21, bC), (q23, bC), (q25, bC), (q27, bC), (q29, bC), (q31, bC), (q33, bC), (q35, bC), (q37, bC), (q39, bC), (q41, bC), (q43, bC), (q45, bC), (q47, bC)] := hD
  refine va_astq hx hb hK hP hD hS 2 1 25 0 rfl rfl rfl rfl (by unfold vp_in; decide +kernel) dX4_init_120 (fun H locs hP hD hS => ?_)
  obtain ⟨f48, hf48⟩ : ∃ f, f = va_up f46 (Int32.toNatClampNeg (iI 13)) (some q47) := ⟨_, rfl⟩
  have hP : va_P D vwCl [(h0, .inr (4, [.ref q1, .ref q3, .ref q5, .int (iI 0), .int (iI 0), .int (iI 0), .ref q7, .ref q8, .int (iI 0), .int (iI 0), .int (iI 0), .int (iI 0), .int (iI 0), .int (iI 0), .int (iI (-1)), .int (iI (-1)), .int (iI 0), .int (iI 0), .ref q9])), (q1, oC cA2 5 f20), (q3, oC cA4 16 (va_up f46 (Int32.toNatClampNeg (iI 13)) (some q47))), (q5, oC cA6 5 (fun _ => none)), (q7, rC), (q8, rC), (q9, zC cA10 16 (fun _ => 0)), (q11, hC), (q13, hC), (q15, hC), (q17, hC), (q19, hC), (q21, bC), (q23, bC), (q25, bC), (q27, bC), (q29, bC), (q31, bC), (q33, bC), (q35, bC), (q37, bC), (q39, bC), (q41, bC), (q43, bC), (q45, bC), (q47, bC)] H := hP
  have hD : va_D A [(h0, .inr (4, [.ref q1, .ref q3, .ref q5, .int (iI 0), .int (iI 0), .int (iI 0), .ref q7, .ref q8, .int (iI 0), .int (iI 0), .int (iI 0), .int (iI 0), .int (iI 0), .int (iI 0), .int (iI (-1)), .int (iI (-1)), .int (iI 0), .int (iI 0), .ref q9])), (q1, oC cA2 5 f20), (q3, oC cA4 16 (va_up f46 (Int32.toNatClampNeg (iI 13)) (some q47))), (q5, oC cA6 5 (fun _ => none)), (q7, rC), (q8, rC), (q9, zC cA10 16 (fun _ => 0)), (q11, hC), (q13, hC), (q15, hC), (q17, hC), (q19, hC), (q21, bC), (q23, bC), (q25, bC), (q27, bC), (q29, bC), (q31, bC), (q33, bC), (q35, bC), (q37, bC), (q39, bC), (q41, bC), (q43, bC), (q45, bC), (q47, bC)] := hD
  rw [← hf48] at hP hD
  refine lv_iinc (v := iI 14) (lv' := [(1, .int (iI 14)), (0, .ref h0)]) hx hb dX4_init_121 hl (k := 0) rfl (by decide) (by decide) rfl (fun ls hl => ?_)
  refine lv_goto (tgt := 102) hx hb dX4_init_124 (by decide) ?_
  refine lv_iload_n hx hb dX4_init_102 rfl (lv_at hl 0 rfl) ?_
  refine lv_bipush (v := iI 16) hx hb dX4_init_103 (by decide) ?_
  refine n_icmp_ge hx hb (by unfold RI; omega) (by unfold RI; omega) (tgt := 127) dX4_init_105 (by decide) (fun h => absurd h (by decide)) (fun _ => ?_)
  refine lv_aload_n hx hb dX4_init_108 rfl (lv_at hl 1 rfl) ?_
  refine va_get (D := D) (ci := 4) (v := .ref q3) (C := RX4) (T := TX4) (N := 19) hx hb hw hin_wsX40 hown hK hP 0 rfl rfl 1 (by decide) (hw _ kw_17) (fun _ h9 => h9) rfl dX4_init_109 ?_
  refine lv_iload_n hx hb dX4_init_112 rfl (lv_at hl 0 rfl) ?_
  refine va_new (ci := 0) (fs := [.int (iI 0), .int (iI 0), .int (iI 0), .int (iI 0), .int (iI 0), .int (iI 0), .int (iI 0), .int (iI 0), .int (iI 0), .int (iI 0), .int (iI 0)]) (C := RX0) (T := TX0) (N := 11) hx hb hw hin_wsX00 tyX0 tyX0_ok hown (hw _ kw_16) (hw _ kw_31) (hw _ kw_32) hK hP hD hS hA rfl (fun j hj => by rcases (show j = 0 ∨ j = 1 ∨ j = 2 ∨ j = 3 ∨ j = 4 ∨ j = 5 ∨ j = 6 ∨ j = 7 ∨ j = 8 ∨ j = 9 ∨ j = 10 by omega) with rfl | rfl | rfl | rfl | rfl | rfl | rfl | rfl | rfl | rfl | rfl <;> rfl) (Nat.le_of_ble_eq_true rfl) (Nat.le_of_ble_eq_true rfl) dX4_init_113 (fun q49 H hP hD hS => ?_)
  have hP : va_P D vwCl [(h0, .inr (4, [.ref q1, .ref q3, .ref q5, .int (iI 0), .int (iI 0), .int (iI 0), .ref q7, .ref q8, .int (iI 0), .int (iI 0), .int (iI 0), .int (iI 0), .int (iI 0), .int (iI 0), .int (iI (-1)), .int (iI (-1)), .int (iI 0), .int (iI 0), .ref q9])), (q1, oC cA2 5 f20), (q3, oC cA4 16 f48), (q5, oC cA6 5 (fun _ => none)), (q7, rC), (q8, rC), (q9, zC cA10 16 (fun _ => 0)), (q11, hC), (q13, hC), (q15, hC), (q17, hC), (q19, hC), (q21, bC), (q23, bC), (q25, bC), (q27, bC), (q29, bC), (q31, bC), (q33, bC), (q35, bC), (q37, bC), (q39, bC), (q41, bC), (q43, bC), (q45, bC), (q47, bC), (q49, bC0)] H := hP
  have hD : va_D A [(h0, .inr (4, [.ref q1, .ref q3, .ref q5, .int (iI 0), .int (iI 0), .int (iI 0), .ref q7, .ref q8, .int (iI 0), .int (iI 0), .int (iI 0), .int (iI 0), .int (iI 0), .int (iI 0), .int (iI (-1)), .int (iI (-1)), .int (iI 0), .int (iI 0), .ref q9])), (q1, oC cA2 5 f20), (q3, oC cA4 16 f48), (q5, oC cA6 5 (fun _ => none)), (q7, rC), (q8, rC), (q9, zC cA10 16 (fun _ => 0)), (q11, hC), (q13, hC), (q15, hC), (q17, hC), (q19, hC), (q21, bC), (q23, bC), (q25, bC), (q27, bC), (q29, bC), (q31, bC), (q33, bC), (q35, bC), (q37, bC), (q39, bC), (q41, bC), (q43, bC), (q45, bC), (q47, bC), (q49, bC0)] := hD
  refine W.widen (k := 26) (n := 225) (Nat.le_of_ble_eq_true rfl) (Nat.le_of_ble_eq_true rfl) ?_
  refine lv_dup hx hb dX4_init_116 rfl ?_
  have hPc := hP.sub (ws' := [(q49, bC0)]) [26] rfl
  have hKc := hK.sub (tys' := []) [] rfl
  have hDc := hD.sub (ws' := [(q49, bC0)]) [26] (by decide) rfl
  have hFc := va_free (wc := [(q49, bC0)]) hD hS hA [26] rfl
  refine va_callv (va_runIN (As := []) (rest := [.ref q49, .int (iI 14), .ref q3]) ⟨hx, hb, hml, hown, hw⟩ (n_Book l D q49 H.size) ⟨va_cnB 0 hw (gA_c kw_47) rfl rfl rfl hE.1.2.2.1 (hw _ kw_32) (by decide +kernel) ⟨Nat.le_of_ble_eq_true rfl, Nat.le_of_ble_eq_true rfl⟩, rfl, (hw _ kw_46)⟩ (cS_s (As := [.ref q49]) hPc hDc hKc hE) rfl rfl hl.1 rfl (lv_room (Nat.le_of_ble_eq_true rfl)) dX4_init_117 ⟨Nat.le_of_ble_eq_true rfl, Nat.le_of_ble_eq_true rfl⟩) hS (fun q _ h => hFc q h) hFc (fun u t H1 locs ht hvm hw9 hB9 hz1 hk1 hS => ?_)
  obtain ⟨hP1, hD1⟩ := hB9
  rw [ht] at hP1
  obtain ⟨hP, hD⟩ := va_join (wr := [(h0, .inr (4, [.ref q1, .ref q3, .ref q5, .int (iI 0), .int (iI 0), .int (iI 0), .ref q7, .ref q8, .int (iI 0), .int (iI 0), .int (iI 0), .int (iI 0), .int (iI 0), .int (iI 0), .int (iI (-1)), .int (iI (-1)), .int (iI 0), .int (iI 0), .ref q9])), (q1, oC cA2 5 f20), (q3, oC cA4 16 f48), (q5, oC cA6 5 (fun _ => none)), (q7, rC), (q8, rC), (q9, zC cA10 16 (fun _ => 0)), (q11, hC), (q13, hC), (q15, hC), (q17, hC), (q19, hC), (q21, bC), (q23, bC), (q25, bC), (q27, bC), (q29, bC), (q31, bC), (q33, bC), (q35, bC), (q37, bC), (q39, bC), (q41, bC), (q43, bC), (q45, bC), (q47, bC)]) (w1 := [(q49, bC)]) hP hD [26] [0, 1, 2, 3, 4, 5, 6, 7, 8, 9, 10, 11, 12, 13, 14, 15, 16, 17, 18, 19, 20, 21, 22, 23, 24, 25] rfl rfl (by decide) (by decide) hk1 hFc hP1 hD1
  generalize H1 = H at hP hS ⊢
  have hP : va_P D vwCl [(h0, .inr (4, [.ref q1, .ref q3, .ref q5, .int (iI 0), .int (iI 0), .int (iI 0), .ref q7, .ref q8, .int (iI 0), .int (iI 0), .int (iI 0), .int (iI 0), .int (iI 0), .int (iI 0), .int (iI (-1)), .int (iI (-1)), .int (iI 0), .int (iI 0), .ref q9])), (q1, oC cA2 5 f20), (q3, oC cA4 16 f48), (q5, oC cA6 5 (fun _ => none)), (q7, rC), (q8, rC), (q9, zC cA10 16 (fun _ => 0)), (q11, hC), (q13, hC), (q15, hC), (q17, hC), (q19, hC), (q21, bC), (q23, bC), (q25, bC), (q27, bC), (q29, bC), (q31, bC), (q33, bC), (q35, bC), (q37, bC), (q39, bC), (q41, bC), (q43, bC), (q45, bC), (q47, bC), (q49, bC)] H := hP
  have hD : va_D A [(h0, .inr (4, [.ref q1, .ref q3, .ref q5, .int (iI 0), .int (iI 0), .int (iI 0), .ref q7, .ref q8, .int (iI 0), .int (iI 0), .int (iI 0), .int (iI 0), .int (iI 0), .int (iI 0), .int (iI (-1)), .int (iI (-1)), .int (iI 0), .int (iI 0), .ref q9])), (q1, oC cA2 5 f20), (q3, oC cA4 16 f48), (q5, oC cA6 5 (fun _ => none)), (q7, rC), (q8, rC), (q9, zC cA10 16 (fun _ => 0)), (q11, hC), (q13, hC), (q15, hC), (q17, hC), (q19, hC), (q21, bC), (q23, bC), (q25, bC), (q27, bC), (q29, bC), (q31, bC), (q33, bC), (q35, bC), (q37, bC), (q39, bC), (q41, bC), (q43, bC), (q45, bC), (q47, bC), (q49, bC)] := hD
  refine va_astq hx hb hK hP hD hS 2 1 26 0 rfl rfl rfl rfl (by unfold vp_in; decide +kernel) dX4_init_120 (fun H locs hP hD hS => ?_)
  obtain ⟨f50, hf50⟩ : ∃ f, f = va_up f48 (Int32.toNatClampNeg (iI 14)) (some q49) := ⟨_, rfl⟩
  have hP : va_P D vwCl [(h0, .inr (4, [.ref q1, .ref q3, .ref q5, .int (iI 0), .int (iI 0), .int (iI 0), .ref q7, .ref q8, .int (iI 0), .int (iI 0), .int (iI 0), .int (iI 0), .int (iI 0), .int (iI 0), .int (iI (-1)), .int (iI (-1)), .int (iI 0), .int (iI 0), .ref q9])), (q1, oC cA2 5 f20), (q3, oC cA4 16 (va_up f48 (Int32.toNatClampNeg (iI 14)) (some q49))), (q5, oC cA6 5 (fun _ => none)), (q7, rC), (q8, rC), (q9, zC cA10 16 (fun _ => 0)), (q11, hC), (q13, hC), (q15, hC), (q17, hC), (q19, hC), (q21, bC), (q23, bC), (q25, bC), (q27, bC), (q29, bC), (q31, bC), (q33, bC), (q35, bC), (q37, bC), (q39, bC), (q41, bC), (q43, bC), (q45, bC), (q47, bC), (q49, bC)] H := hP
  have hD : va_D A [(h0, .inr (4, [.ref q1, .ref q3, .ref q5, .int (iI 0), .int (iI 0), .int (iI 0), .ref q7, .ref q8, .int (iI 0), .int (iI 0), .int (iI 0), .int (iI 0), .int (iI 0), .int (iI 0), .int (iI (-1)), .int (iI (-1)), .int (iI 0), .int (iI 0), .ref q9])), (q1, oC cA2 5 f20), (q3, oC cA4 16 (va_up f48 (Int32.toNatClampNeg (iI 14)) (some q49))), (q5, oC cA6 5 (fun _ => none)), (q7, rC), (q8, rC), (q9, zC cA10 16 (fun _ => 0)), (q11, hC), (q13, hC), (q15, hC), (q17, hC), (q19, hC), (q21, bC), (q23, bC), (q25, bC), (q27, bC), (q29, bC), (q31, bC), (q33, bC), (q35, bC), (q37, bC), (q39, bC), (q41, bC), (q43, bC), (q45, bC), (q47, bC), (q49, bC)] := hD
  rw [← hf50] at hP hD
  refine lv_iinc (v := iI 15) (lv' := [(1, .int (iI 15)), (0, .ref h0)]) hx hb dX4_init_121 hl (k := 0) rfl (by decide) (by decide) rfl (fun ls hl => ?_)
  refine lv_goto (tgt := 102) hx hb dX4_init_124 (by decide) ?_
  refine lv_iload_n hx hb dX4_init_102 rfl (lv_at hl 0 rfl) ?_
  refine lv_bipush (v := iI 16) hx hb dX4_init_103 (by decide) ?_
  refine n_icmp_ge hx hb (by unfold RI; omega) (by unfold RI; omega) (tgt := 127) dX4_init_105 (by decide) (fun h => absurd h (by decide)) (fun _ => ?_)
  refine lv_aload_n hx hb dX4_init_108 rfl (lv_at hl 1 rfl) ?_
  refine va_get (D := D) (ci := 4) (v := .ref q3) (C := RX4) (T := TX4) (N := 19) hx hb hw hin_wsX40 hown hK hP 0 rfl rfl 1 (by decide) (hw _ kw_17) (fun _ h9 => h9) rfl dX4_init_109 ?_
  refine lv_iload_n hx hb dX4_init_112 rfl (lv_at hl 0 rfl) ?_
  refine va_new (ci := 0) (fs := [.int (iI 0), .int (iI 0), .int (iI 0), .int (iI 0), .int (iI 0), .int (iI 0), .int (iI 0), .int (iI 0), .int (iI 0), .int (iI 0), .int (iI 0)]) (C := RX0) (T := TX0) (N := 11) hx hb hw hin_wsX00 tyX0 tyX0_ok hown (hw _ kw_16) (hw _ kw_31) (hw _ kw_32) hK hP hD hS hA rfl (fun j hj => by rcases (show j = 0 ∨ j = 1 ∨ j = 2 ∨ j = 3 ∨ j = 4 ∨ j = 5 ∨ j = 6 ∨ j = 7 ∨ j = 8 ∨ j = 9 ∨ j = 10 by omega) with rfl | rfl | rfl | rfl | rfl | rfl | rfl | rfl | rfl | rfl | rfl <;> rfl) (Nat.le_of_ble_eq_true rfl) (Nat.le_of_ble_eq_true rfl) dX4_init_113 (fun q51 H hP hD hS => ?_)
  have hP : va_P D vwCl [(h0, .inr (4, [.ref q1, .ref q3, .ref q5, .int (iI 0), .int (iI 0), .int (iI 0), .ref q7, .ref q8, .int (iI 0), .int (iI 0), .int (iI 0), .int (iI 0), .int (iI 0), .int (iI 0), .int (iI (-1)), .int (iI (-1)), .int (iI 0), .int (iI 0), .ref q9])), (q1, oC cA2 5 f20), (q3, oC cA4 16 f50), (q5, oC cA6 5 (fun _ => none)), (q7, rC), (q8, rC), (q9, zC cA10 16 (fun _ => 0)), (q11, hC), (q13, hC), (q15, hC), (q17, hC), (q19, hC), (q21, bC), (q23, bC), (q25, bC), (q27, bC), (q29, bC), (q31, bC), (q33, bC), (q35, bC), (q37, bC), (q39, bC), (q41, bC), (q43, bC), (q45, bC), (q47, bC), (q49, bC), (q51, bC0)] H := hP
  have hD : va_D A [(h0, .inr (4, [.ref q1, .ref q3, .ref q5, .int (iI 0), .int (iI 0), .int (iI 0), .ref q7, .ref q8, .int (iI 0), .int (iI 0), .int (iI 0), .int (iI 0), .int (iI 0), .int (iI 0), .int (iI (-1)), .int (iI (-1)), .int (iI 0), .int (iI 0), .ref q9])), (q1, oC cA2 5 f20), (q3, oC cA4 16 f50), (q5, oC cA6 5 (fun _ => none)), (q7, rC), (q8, rC), (q9, zC cA10 16 (fun _ => 0)), (q11, hC), (q13, hC), (q15, hC), (q17, hC), (q19, hC), (q21, bC), (q23, bC), (q25, bC), (q27, bC), (q29, bC), (q31, bC), (q33, bC), (q35, bC), (q37, bC), (q39, bC), (q41, bC), (q43, bC), (q45, bC), (q47, bC), (q49, bC), (q51, bC0)] := hD
  refine W.widen (k := 27) (n := 236) (Nat.le_of_ble_eq_true rfl) (Nat.le_of_ble_eq_true rfl) ?_
  refine lv_dup hx hb dX4_init_116 rfl ?_
  have hPc := hP.sub (ws' := [(q51, bC0)]) [27] rfl
  have hKc := hK.sub (tys' := []) [] rfl
  have hDc := hD.sub (ws' := [(q51, bC0)]) [27] (by decide) rfl
  have hFc := va_free (wc := [(q51, bC0)]) hD hS hA [27] rfl
  refine va_callv (va_runIN (As := []) (rest := [.ref q51, .int (iI 15), .ref q3]) ⟨hx, hb, hml, hown, hw⟩ (n_Book l D q51 H.size) ⟨va_cnB 0 hw (gA_c kw_47) rfl rfl rfl hE.1.2.2.1 (hw _ kw_32) (by decide +kernel) ⟨Nat.le_of_ble_eq_true rfl, Nat.le_of_ble_eq_true rfl⟩, rfl, (hw _ kw_46)⟩ (cS_s (As := [.ref q51]) hPc hDc hKc hE) rfl rfl hl.1 rfl (lv_room (Nat.le_of_ble_eq_true rfl)) dX4_init_117 ⟨Nat.le_of_ble_eq_true rfl, Nat.le_of_ble_eq_true rfl⟩) hS (fun q _ h => hFc q h) hFc (fun u t H1 locs ht hvm hw9 hB9 hz1 hk1 hS => ?_)
  obtain ⟨hP1, hD1⟩ := hB9
  rw [ht] at hP1
  obtain ⟨hP, hD⟩ := va_join (wr := [(h0, .inr (4, [.ref q1, .ref q3, .ref q5, .int (iI 0), .int (iI 0), .int (iI 0), .ref q7, .ref q8, .int (iI 0), .int (iI 0), .int (iI 0), .int (iI 0), .int (iI 0), .int (iI 0), .int (iI (-1)), .int (iI (-1)), .int (iI 0), .int (iI 0), .ref q9])), (q1, oC cA2 5 f20), (q3, oC cA4 16 f50), (q5, oC cA6 5 (fun _ => none)), (q7, rC), (q8, rC), (q9, zC cA10 16 (fun _ => 0)), (q11, hC), (q13, hC), (q15, hC), (q17, hC), (q19, hC), (q21, bC), (q23, bC), (q25, bC), (q27, bC), (q29, bC), (q31, bC), (q33, bC), (q35, bC), (q37, bC), (q39, bC), (q41, bC), (q43, bC), (q45, bC), (q47, bC), (q49, bC)]) (w1 := [(q51, bC)]) hP hD [27] [0, 1, 2, 3, 4, 5, 6, 7, 8, 9, 10, 11, 12, 13, 14, 15, 16, 17, 18, 19, 20, 21, 22, 23, 24, 25, 26] rfl rfl (by decide) (by decide) hk1 hFc hP1 hD1
  generalize H1 = H at hP hS ⊢
  have hP : va_P D vwCl [(h0, .inr (4, [.ref q1, .ref q3, .ref q5, .int (iI 0), .int (iI 0), .int (iI 0), .ref q7, .ref q8, .int (iI 0), .int (iI 0), .int (iI 0), .int (iI 0), .int (iI 0), .int (iI 0), .int (iI (-1)), .int (iI (-1)), .int (iI 0), .int (iI 0), .ref q9])), (q1, oC cA2 5 f20), (q3, oC cA4 16 f50), (q5, oC cA6 5 (fun _ => none)), (q7, rC), (q8, rC), (q9, zC cA10 16 (fun _ => 0)), (q11, hC), (q13, hC), (q15, hC), (q17, hC), (q19, hC), (q21, bC), (q23, bC), (q25, bC), (q27, bC), (q29, bC), (q31, bC), (q33, bC), (q35, bC), (q37, bC), (q39, bC), (q41, bC), (q43, bC), (q45, bC), (q47, bC), (q49, bC), (q51, bC)] H := hP
  have hD : va_D A [(h0, .inr (4, [.ref q1, .ref q3, .ref q5, .int (iI 0), .int (iI 0), .int (iI 0), .ref q7, .ref q8, .int (iI 0), .int (iI 0), .int (iI 0), .int (iI 0), .int (iI 0), .int (iI 0), .int (iI (-1)), .int (iI (-1)), .int (iI 0), .int (iI 0), .ref q9])), (q1, oC cA2 5 f20), (q3, oC cA4 16 f50), (q5, oC cA6 5 (fun _ => none)), (q7, rC), (q8, rC), (q9, zC cA10 16 (fun _ => 0)), (q11, hC), (q13, hC), (q15, hC), (q17, hC), (q19, hC), (q21, bC), (q23, bC), (q25, bC), (q27, bC), (q29, bC), (q31, bC), (q33, bC), (q35, bC), (q37, bC), (q39, bC), (q41, bC), (q43, bC), (q45, bC), (q47, bC), (q49, bC), (q51, bC)] := hD
  refine va_astq hx hb hK hP hD hS 2 1 27 0 rfl rfl rfl rfl (by unfold vp_in; decide +kernel) dX4_init_120 (fun H locs hP hD hS => ?_)
  obtain ⟨f52, hf52⟩ : ∃ f, f = va_up f50 (Int32.toNatClampNeg (iI 15)) (some q51) := ⟨_, rfl⟩
  have hP : va_P D vwCl [(h0, .inr (4, [.ref q1, .ref q3, .ref q5, .int (iI 0), .int (iI 0), .int (iI 0), .ref q7, .ref q8, .int (iI 0), .int (iI 0), .int (iI 0), .int (iI 0), .int (iI 0), .int (iI 0), .int (iI (-1)), .int (iI (-1)), .int (iI 0), .int (iI 0), .ref q9])), (q1, oC cA2 5 f20), (q3, oC cA4 16 (va_up f50 (Int32.toNatClampNeg (iI 15)) (some q51))), (q5, oC cA6 5 (fun _ => none)), (q7, rC), (q8, rC), (q9, zC cA10 16 (fun _ => 0)), (q11, hC), (q13, hC), (q15, hC), (q17, hC), (q19, hC), (q21, bC), (q23, bC), (q25, bC), (q27, bC), (q29, bC), (q31, bC), (q33, bC), (q35, bC), (q37, bC), (q39, bC), (q41, bC), (q43, bC), (q45, bC), (q47, bC), (q49, bC), (q51, bC)] H := hP
  have hD : va_D A [(h0, .inr (4, [.ref q1, .ref q3, .ref q5, .int (iI 0), .int (iI 0), .int (iI 0), .ref q7, .ref q8, .int (iI 0), .int (iI 0), .int (iI 0), .int (iI 0), .int (iI 0), .int (iI 0), .int (iI (-1)), .int (iI (-1)), .int (iI 0), .int (iI 0), .ref q9])), (q1, oC cA2 5 f20), (q3, oC cA4 16 (va_up f50 (Int32.toNatClampNeg (iI 15)) (some q51))), (q5, oC cA6 5 (fun _ => none)), (q7, rC), (q8, rC), (q9, zC cA10 16 (fun _ => 0)), (q11, hC), (q13, hC), (q15, hC), (q17, hC), (q19, hC), (q21, bC), (q23, bC), (q25, bC), (q27, bC), (q29, bC), (q31, bC), (q33, bC), (q35, bC), (q37, bC), (q39, bC), (q41, bC), (q43, bC), (q45, bC), (q47, bC), (q49, bC), (q51, bC)] := hD
  rw [← hf52] at hP hD
  refine lv_iinc (v := iI 16) (lv' := [(1, .int (iI 16)), (0, .ref h0)]) hx hb dX4_init_121 hl (k := 0) rfl (by decide) (by decide) rfl (fun ls hl => ?_)
  refine lv_goto (tgt := 102) hx hb dX4_init_124 (by decide) ?_
  refine lv_iload_n hx hb dX4_init_102 rfl (lv_at hl 0 rfl) ?_
  refine lv_bipush (v := iI 16) hx hb dX4_init_103 (by decide) ?_
  refine n_icmp_ge hx hb (by unfold RI; omega) (by unfold RI; omega) (tgt := 127) dX4_init_105 (by decide) (fun _ => ?_) (fun h => absurd h (by decide))
  refine lv_iconst (v := iI 0) hx hb dX4_init_127 (by decide) ?_
  refine lv_istore_n (lv' := [(1, .int (iI 0)), (0, .ref h0)]) hx hb dX4_init_128 rfl hl (by decide) rfl (fun ls hl => ?_)
  refine lv_iload_n hx hb dX4_init_129 rfl (lv_at hl 0 rfl) ?_
  refine lv_iconst (v := iI 5) hx hb dX4_init_130 (by decide) ?_
  refine n_icmp_ge hx hb (by unfold RI; omega) (by unfold RI; omega) (tgt := 153) dX4_init_131 (by decide) (fun h => absurd h (by decide)) (fun _ => ?_)
  refine lv_aload_n hx hb dX4_init_134 rfl (lv_at hl 1 rfl) ?_
  refine va_get (D := D) (ci := 4) (v := .ref q5) (C := RX4) (T := TX4) (N := 19) hx hb hw hin_wsX40 hown hK hP 0 rfl rfl 2 (by decide) (hw _ kw_19) (fun _ h9 => h9) rfl dX4_init_135 ?_
  refine lv_iload_n hx hb dX4_init_138 rfl (lv_at hl 0 rfl) ?_
  refine va_new (ci := 2) (fs := [.int (iI 0), .int (iI 0), .int (iI 0), .int (iI 0), .int (iI 0), .null, .null, .int (iI 0), .int (iI 0), .int (iI 0), .int (iI 0), .null, .int (iI 0), .null, .null, .int (iI 0)]) (C := RX2) (T := TX2) (N := 16) hx hb hw hin_wsX20 tyX2 tyX2_ok hown (hw _ kw_18) (hw _ kw_33) (hw _ kw_34) hK hP hD hS hA rfl (fun j hj => by rcases (show j = 0 ∨ j = 1 ∨ j = 2 ∨ j = 3 ∨ j = 4 ∨ j = 5 ∨ j = 6 ∨ j = 7 ∨ j = 8 ∨ j = 9 ∨ j = 10 ∨ j = 11 ∨ j = 12 ∨ j = 13 ∨ j = 14 ∨ j = 15 by omega) with rfl | rfl | rfl | rfl | rfl | rfl | rfl | rfl | rfl | rfl | rfl | rfl | rfl | rfl | rfl | rfl <;> rfl) (Nat.le_of_ble_eq_true rfl) (Nat.le_of_ble_eq_true rfl) dX4_init_139 (fun q53 H hP hD hS => ?_)
  have hP : va_P D vwCl [(h0, .inr (4, [.ref q1, .ref q3, .ref q5, .int (iI 0), .int (iI 0), .int (iI 0), .ref q7, .ref q8, .int (iI 0), .int (iI 0), .int (iI 0), .int (iI 0), .int (iI 0), .int (iI 0), .int (iI (-1)), .int (iI (-1)), .int (iI 0), .int (iI 0), .ref q9])), (q1, oC cA2 5 f20), (q3, oC cA4 16 f52), (q5, oC cA6 5 (fun _ => none)), (q7, rC), (q8, rC), (q9, zC cA10 16 (fun _ => 0)), (q11, hC), (q13, hC), (q15, hC), (q17, hC), (q19, hC), (q21, bC), (q23, bC), (q25, bC), (q27, bC), (q29, bC), (q31, bC), (q33, bC), (q35, bC), (q37, bC), (q39, bC), (q41, bC), (q43, bC), (q45, bC), (q47, bC), (q49, bC), (q51, bC), (q53, jC0)] H := hP
  have hD : va_D A [(h0, .inr (4, [.ref q1, .ref q3, .ref q5, .int (iI 0), .int (iI 0), .int (iI 0), .ref q7, .ref q8, .int (iI 0), .int (iI 0), .int (iI 0), .int (iI 0), .int (iI 0), .int (iI 0), .int (iI (-1)), .int (iI (-1)), .int (iI 0), .int (iI 0), .ref q9])), (q1, oC cA2 5 f20), (q3, oC cA4 16 f52), (q5, oC cA6 5 (fun _ => none)), (q7, rC), (q8, rC), (q9, zC cA10 16 (fun _ => 0)), (q11, hC), (q13, hC), (q15, hC), (q17, hC), (q19, hC), (q21, bC), (q23, bC), (q25, bC), (q27, bC), (q29, bC), (q31, bC), (q33, bC), (q35, bC), (q37, bC), (q39, bC), (q41, bC), (q43, bC), (q45, bC), (q47, bC), (q49, bC), (q51, bC), (q53, jC0)] := hD
  refine W.widen (k := 28) (n := 252) (Nat.le_of_ble_eq_true rfl) (Nat.le_of_ble_eq_true rfl) ?_
  refine lv_dup hx hb dX4_init_142 rfl ?_
  have hPc := hP.sub (ws' := [(q53, jC0)]) [28] rfl
  have hKc := hK.sub (tys' := []) [] rfl
  have hDc := hD.sub (ws' := [(q53, jC0)]) [28] (by decide) rfl
  have hFc := va_free (wc := [(q53, jC0)]) hD hS hA [28] rfl
  refine va_callv (va_runI (As := []) (rest := [.ref q53, .int (iI 0), .ref q5]) ⟨hx, hb, hml, hown, hw⟩ (n_Judge l D q53 H.size) (cwI 0 hw (gA_c kw_52) rfl rfl rfl (hw _ kw_34) (hw _ kw_50) (hw _ kw_51) rfl (by decide +kernel) ⟨Nat.le_of_ble_eq_true rfl, Nat.le_of_ble_eq_true rfl⟩) (cS_s (As := [.ref q53]) hPc hDc hKc hE) rfl rfl hl.1 rfl (lv_room (Nat.le_of_ble_eq_true rfl)) dX4_init_143 ⟨Nat.le_of_ble_eq_true rfl, Nat.le_of_ble_eq_true rfl⟩) hS (fun q _ h => hFc q h) hFc (fun u t H1 locs ht hvm hw9 hB9 hz1 hk1 hS => ?_)
  obtain ⟨r54, r55, r56, r57, r58, ck59, hP1, hK1, hD1⟩ := hB9
  rw [ht] at hP1
  have hK1 := va_K.moved hvm.symm hK1
  have hK2 := hK.app hK1
  obtain rfl : cA10 = ck59 := ci_eq hK2 3 4 rfl rfl
  obtain ⟨hP, hD⟩ := va_join (wr := [(h0, .inr (4, [.ref q1, .ref q3, .ref q5, .int (iI 0), .int (iI 0), .int (iI 0), .ref q7, .ref q8, .int (iI 0), .int (iI 0), .int (iI 0), .int (iI 0), .int (iI 0), .int (iI 0), .int (iI (-1)), .int (iI (-1)), .int (iI 0), .int (iI 0), .ref q9])), (q1, oC cA2 5 f20), (q3, oC cA4 16 f52), (q5, oC cA6 5 (fun _ => none)), (q7, rC), (q8, rC), (q9, zC cA10 16 (fun _ => 0)), (q11, hC), (q13, hC), (q15, hC), (q17, hC), (q19, hC), (q21, bC), (q23, bC), (q25, bC), (q27, bC), (q29, bC), (q31, bC), (q33, bC), (q35, bC), (q37, bC), (q39, bC), (q41, bC), (q43, bC), (q45, bC), (q47, bC), (q49, bC), (q51, bC)]) (w1 := [(q53, jC r54 r55 r56 r57 r58), (r54, zC cA10 16 (fun _ => 0)), (r55, zC cA10 16 (fun _ => 0)), (r56, zC cA10 16 (fun _ => iI (-1))), (r57, zC cA10 16 (fun _ => 0)), (r58, zC cA10 5 (fun _ => 0))]) hP hD [28] [0, 1, 2, 3, 4, 5, 6, 7, 8, 9, 10, 11, 12, 13, 14, 15, 16, 17, 18, 19, 20, 21, 22, 23, 24, 25, 26, 27] rfl rfl (by decide) (by decide) hk1 hFc hP1 hD1
  generalize H1 = H at hP hS ⊢
  have hP : va_P D vwCl [(h0, .inr (4, [.ref q1, .ref q3, .ref q5, .int (iI 0), .int (iI 0), .int (iI 0), .ref q7, .ref q8, .int (iI 0), .int (iI 0), .int (iI 0), .int (iI 0), .int (iI 0), .int (iI 0), .int (iI (-1)), .int (iI (-1)), .int (iI 0), .int (iI 0), .ref q9])), (q1, oC cA2 5 f20), (q3, oC cA4 16 f52), (q5, oC cA6 5 (fun _ => none)), (q7, rC), (q8, rC), (q9, zC cA10 16 (fun _ => 0)), (q11, hC), (q13, hC), (q15, hC), (q17, hC), (q19, hC), (q21, bC), (q23, bC), (q25, bC), (q27, bC), (q29, bC), (q31, bC), (q33, bC), (q35, bC), (q37, bC), (q39, bC), (q41, bC), (q43, bC), (q45, bC), (q47, bC), (q49, bC), (q51, bC), (q53, jC r54 r55 r56 r57 r58), (r54, zC cA10 16 (fun _ => 0)), (r55, zC cA10 16 (fun _ => 0)), (r56, zC cA10 16 (fun _ => iI (-1))), (r57, zC cA10 16 (fun _ => 0)), (r58, zC cA10 5 (fun _ => 0))] H := hP
  have hD : va_D A [(h0, .inr (4, [.ref q1, .ref q3, .ref q5, .int (iI 0), .int (iI 0), .int (iI 0), .ref q7, .ref q8, .int (iI 0), .int (iI 0), .int (iI 0), .int (iI 0), .int (iI 0), .int (iI 0), .int (iI (-1)), .int (iI (-1)), .int (iI 0), .int (iI 0), .ref q9])), (q1, oC cA2 5 f20), (q3, oC cA4 16 f52), (q5, oC cA6 5 (fun _ => none)), (q7, rC), (q8, rC), (q9, zC cA10 16 (fun _ => 0)), (q11, hC), (q13, hC), (q15, hC), (q17, hC), (q19, hC), (q21, bC), (q23, bC), (q25, bC), (q27, bC), (q29, bC), (q31, bC), (q33, bC), (q35, bC), (q37, bC), (q39, bC), (q41, bC), (q43, bC), (q45, bC), (q47, bC), (q49, bC), (q51, bC), (q53, jC r54 r55 r56 r57 r58), (r54, zC cA10 16 (fun _ => 0)), (r55, zC cA10 16 (fun _ => 0)), (r56, zC cA10 16 (fun _ => iI (-1))), (r57, zC cA10 16 (fun _ => 0)), (r58, zC cA10 5 (fun _ => 0))] := hD
  refine W.widen (k := 33) (n := 321) (Nat.le_of_ble_eq_true rfl) (Nat.le_of_ble_eq_true rfl) ?_
  refine va_astq hx hb hK hP hD hS 3 2 28 2 rfl rfl rfl rfl (by unfold vp_in; decide +kernel) dX4_init_146 (fun H locs hP hD hS => ?_)
  obtain ⟨f60, hf60⟩ : ∃ f, f = va_up (fun _ => none) (Int32.toNatClampNeg (iI 0)) (some q53) := ⟨_, rfl⟩
  have hP : va_P D vwCl [(h0, .inr (4, [.ref q1, .ref q3, .ref q5, .int (iI 0), .int (iI 0), .int (iI 0), .ref q7, .ref q8, .int (iI 0), .int (iI 0), .int (iI 0), .int (iI 0), .int (iI 0), .int (iI 0), .int (iI (-1)), .int (iI (-1)), .int (iI 0), .int (iI 0), .ref q9])), (q1, oC cA2 5 f20), (q3, oC cA4 16 f52), (q5, oC cA6 5 (va_up (fun _ => none) (Int32.toNatClampNeg (iI 0)) (some q53))), (q7, rC), (q8, rC), (q9, zC cA10 16 (fun _ => 0)), (q11, hC), (q13, hC), (q15, hC), (q17, hC), (q19, hC), (q21, bC), (q23, bC), (q25, bC), (q27, bC), (q29, bC), (q31, bC), (q33, bC), (q35, bC), (q37, bC), (q39, bC), (q41, bC), (q43, bC), (q45, bC), (q47, bC), (q49, bC), (q51, bC), (q53, jC r54 r55 r56 r57 r58), (r54, zC cA10 16 (fun _ => 0)), (r55, zC cA10 16 (fun _ => 0)), (r56, zC cA10 16 (fun _ => iI (-1))), (r57, zC cA10 16 (fun _ => 0)), (r58, zC cA10 5 (fun _ => 0))] H := hP
  have hD : va_D A [(h0, .inr (4, [.ref q1, .ref q3, .ref q5, .int (iI 0), .int (iI 0), .int (iI 0), .ref q7, .ref q8, .int (iI 0), .int (iI 0), .int (iI 0), .int (iI 0), .int (iI 0), .int (iI 0), .int (iI (-1)), .int (iI (-1)), .int (iI 0), .int (iI 0), .ref q9])), (q1, oC cA2 5 f20), (q3, oC cA4 16 f52), (q5, oC cA6 5 (va_up (fun _ => none) (Int32.toNatClampNeg (iI 0)) (some q53))), (q7, rC), (q8, rC), (q9, zC cA10 16 (fun _ => 0)), (q11, hC), (q13, hC), (q15, hC), (q17, hC), (q19, hC), (q21, bC), (q23, bC), (q25, bC), (q27, bC), (q29, bC), (q31, bC), (q33, bC), (q35, bC), (q37, bC), (q39, bC), (q41, bC), (q43, bC), (q45, bC), (q47, bC), (q49, bC), (q51, bC), (q53, jC r54 r55 r56 r57 r58), (r54, zC cA10 16 (fun _ => 0)), (r55, zC cA10 16 (fun _ => 0)), (r56, zC cA10 16 (fun _ => iI (-1))), (r57, zC cA10 16 (fun _ => 0)), (r58, zC cA10 5 (fun _ => 0))] := hD
  rw [← hf60] at hP hD
  refine lv_iinc (v := iI 1) (lv' := [(1, .int (iI 1)), (0, .ref h0)]) hx hb dX4_init_147 hl (k := 0) rfl (by decide) (by decide) rfl (fun ls hl => ?_)
  refine lv_goto (tgt := 129) hx hb dX4_init_150 (by decide) ?_
  refine lv_iload_n hx hb dX4_init_129 rfl (lv_at hl 0 rfl) ?_
  refine lv_iconst (v := iI 5) hx hb dX4_init_130 (by decide) ?_
  refine n_icmp_ge hx hb (by unfold RI; omega) (by unfold RI; omega) (tgt := 153) dX4_init_131 (by decide) (fun h => absurd h (by decide)) (fun _ => ?_)
  refine lv_aload_n hx hb dX4_init_134 rfl (lv_at hl 1 rfl) ?_
  refine va_get (D := D) (ci := 4) (v := .ref q5) (C := RX4) (T := TX4) (N := 19) hx hb hw hin_wsX40 hown hK hP 0 rfl rfl 2 (by decide) (hw _ kw_19) (fun _ h9 => h9) rfl dX4_init_135 ?_
  refine lv_iload_n hx hb dX4_init_138 rfl (lv_at hl 0 rfl) ?_
  refine va_new (ci := 2) (fs := [.int (iI 0), .int (iI 0), .int (iI 0), .int (iI 0), .int (iI 0), .null, .null, .int (iI 0), .int (iI 0), .int (iI 0), .int (iI 0), .null, .int (iI 0), .null, .null, .int (iI 0)]) (C := RX2) (T := TX2) (N := 16) hx hb hw hin_wsX20 tyX2 tyX2_ok hown (hw _ kw_18) (hw _ kw_33) (hw _ kw_34) hK hP hD hS hA rfl (fun j hj => by rcases (show j = 0 ∨ j = 1 ∨ j = 2 ∨ j = 3 ∨ j = 4 ∨ j = 5 ∨ j = 6 ∨ j = 7 ∨ j = 8 ∨ j = 9 ∨ j = 10 ∨ j = 11 ∨ j = 12 ∨ j = 13 ∨ j = 14 ∨ j = 15 by omega) with rfl | rfl | rfl | rfl | rfl | rfl | rfl | rfl | rfl | rfl | rfl | rfl | rfl | rfl | rfl | rfl <;> rfl) (Nat.le_of_ble_eq_true rfl) (Nat.le_of_ble_eq_true rfl) dX4_init_139 (fun q61 H hP hD hS => ?_)
  have hP : va_P D vwCl [(h0, .inr (4, [.ref q1, .ref q3, .ref q5, .int (iI 0), .int (iI 0), .int (iI 0), .ref q7, .ref q8, .int (iI 0), .int (iI 0), .int (iI 0), .int (iI 0), .int (iI 0), .int (iI 0), .int (iI (-1)), .int (iI (-1)), .int (iI 0), .int (iI 0), .ref q9])), (q1, oC cA2 5 f20), (q3, oC cA4 16 f52), (q5, oC cA6 5 f60), (q7, rC), (q8, rC), (q9, zC cA10 16 (fun _ => 0)), (q11, hC), (q13, hC), (q15, hC), (q17, hC), (q19, hC), (q21, bC), (q23, bC), (q25, bC), (q27, bC), (q29, bC), (q31, bC), (q33, bC), (q35, bC), (q37, bC), (q39, bC), (q41, bC), (q43, bC), (q45, bC), (q47, bC), (q49, bC), (q51, bC), (q53, jC r54 r55 r56 r57 r58), (r54, zC cA10 16 (fun _ => 0)), (r55, zC cA10 16 (fun _ => 0)), (r56, zC cA10 16 (fun _ => iI (-1))), (r57, zC cA10 16 (fun _ => 0)), (r58, zC cA10 5 (fun _ => 0)), (q61, jC0)] H := hP
  have hD : va_D A [(h0, .inr (4, [.ref q1, .ref q3, .ref q5, .int (iI 0), .int (iI 0), .int (iI 0), .ref q7, .ref q8, .int (iI 0), .int (iI 0), .int (iI 0), .int (iI 0), .int (iI 0), .int (iI 0), .int (iI (-1)), .int (iI (-1)), .int (iI 0), .int (iI 0), .ref q9])), (q1, oC cA2 5 f20), (q3, oC cA4 16 f52), (q5, oC cA6 5 f60), (q7, rC), (q8, rC), (q9, zC cA10 16 (fun _ => 0)), (q11, hC), (q13, hC), (q15, hC), (q17, hC), (q19, hC), (q21, bC), (q23, bC), (q25, bC), (q27, bC), (q29, bC), (q31, bC), (q33, bC), (q35, bC), (q37, bC), (q39, bC), (q41, bC), (q43, bC), (q45, bC), (q47, bC), (q49, bC), (q51, bC), (q53, jC r54 r55 r56 r57 r58), (r54, zC cA10 16 (fun _ => 0)), (r55, zC cA10 16 (fun _ => 0)), (r56, zC cA10 16 (fun _ => iI (-1))), (r57, zC cA10 16 (fun _ => 0)), (r58, zC cA10 5 (fun _ => 0)), (q61, jC0)] := hD
  refine W.widen (k := 34) (n := 337) (Nat.le_of_ble_eq_true rfl) (Nat.le_of_ble_eq_true rfl) ?_
  refine lv_dup hx hb dX4_init_142 rfl ?_
  have hPc := hP.sub (ws' := [(q61, jC0)]) [34] rfl
  have hKc := hK.sub (tys' := []) [] rfl
  have hDc := hD.sub (ws' := [(q61, jC0)]) [34] (by decide) rfl
  have hFc := va_free (wc := [(q61, jC0)]) hD hS hA [34] rfl
  refine va_callv (va_runI (As := []) (rest := [.ref q61, .int (iI 1), .ref q5]) ⟨hx, hb, hml, hown, hw⟩ (n_Judge l D q61 H.size) (cwI 0 hw (gA_c kw_52) rfl rfl rfl (hw _ kw_34) (hw _ kw_50) (hw _ kw_51) rfl (by decide +kernel) ⟨Nat.le_of_ble_eq_true rfl, Nat.le_of_ble_eq_true rfl⟩) (cS_s (As := [.ref q61]) hPc hDc hKc hE) rfl rfl hl.1 rfl (lv_room (Nat.le_of_ble_eq_true rfl)) dX4_init_143 ⟨Nat.le_of_ble_eq_true rfl, Nat.le_of_ble_eq_true rfl⟩) hS (fun q _ h => hFc q h) hFc (fun u t H1 locs ht hvm hw9 hB9 hz1 hk1 hS => ?_)
  obtain ⟨r62, r63, r64, r65, r66, ck67, hP1, hK1, hD1⟩ := hB9
  rw [ht] at hP1
  have hK1 := va_K.moved hvm.symm hK1
  have hK2 := hK.app hK1
  obtain rfl : cA10 = ck67 := ci_eq hK2 3 4 rfl rfl
  obtain ⟨hP, hD⟩ := va_join (wr := [(h0, .inr (4, [.ref q1, .ref q3, .ref q5, .int (iI 0), .int (iI 0), .int (iI 0), .ref q7, .ref q8, .int (iI 0), .int (iI 0), .int (iI 0), .int (iI 0), .int (iI 0), .int (iI 0), .int (iI (-1)), .int (iI (-1)), .int (iI 0), .int (iI 0), .ref q9])), (q1, oC cA2 5 f20), (q3, oC cA4 16 f52), (q5, oC cA6 5 f60), (q7, rC), (q8, rC), (q9, zC cA10 16 (fun _ => 0)), (q11, hC), (q13, hC), (q15, hC), (q17, hC), (q19, hC), (q21, bC), (q23, bC), (q25, bC), (q27, bC), (q29, bC), (q31, bC), (q33, bC), (q35, bC), (q37, bC), (q39, bC), (q41, bC), (q43, bC), (q45, bC), (q47, bC), (q49, bC), (q51, bC), (q53, jC r54 r55 r56 r57 r58), (r54, zC cA10 16 (fun _ => 0)), (r55, zC cA10 16 (fun _ => 0)), (r56, zC cA10 16 (fun _ => iI (-1))), (r57, zC cA10 16 (fun _ => 0)), (r58, zC cA10 5 (fun _ => 0))]) (w1 := [(q61, jC r62 r63 r64 r65 r66), (r62, zC cA10 16 (fun _ => 0)), (r63, zC cA10 16 (fun _ => 0)), (r64, zC cA10 16 (fun _ => iI (-1))), (r65, zC cA10 16 (fun _ => 0)), (r66, zC cA10 5 (fun _ => 0))]) hP hD [34] [0, 1, 2, 3, 4, 5, 6, 7, 8, 9, 10, 11, 12, 13, 14, 15, 16, 17, 18, 19, 20, 21, 22, 23, 24, 25, 26, 27, 28, 29, 30, 31, 32, 33] rfl rfl (by decide) (by decide) hk1 hFc hP1 hD1
  generalize H1 = H at hP hS ⊢
  have hP : va_P D vwCl [(h0, .inr (4, [.ref q1, .ref q3, .ref q5, .int (iI 0), .int (iI 0), .int (iI 0), .ref q7, .ref q8, .int (iI 0), .int (iI 0), .int (iI 0), .int (iI 0), .int (iI 0), .int (iI 0), .int (iI (-1)), .int (iI (-1)), .int (iI 0), .int (iI 0), .ref q9])), (q1, oC cA2 5 f20), (q3, oC cA4 16 f52), (q5, oC cA6 5 f60), (q7, rC), (q8, rC), (q9, zC cA10 16 (fun _ => 0)), (q11, hC), (q13, hC), (q15, hC), (q17, hC), (q19, hC), (q21, bC), (q23, bC), (q25, bC), (q27, bC), (q29, bC), (q31, bC), (q33, bC), (q35, bC), (q37, bC), (q39, bC), (q41, bC), (q43, bC), (q45, bC), (q47, bC), (q49, bC), (q51, bC), (q53, jC r54 r55 r56 r57 r58), (r54, zC cA10 16 (fun _ => 0)), (r55, zC cA10 16 (fun _ => 0)), (r56, zC cA10 16 (fun _ => iI (-1))), (r57, zC cA10 16 (fun _ => 0)), (r58, zC cA10 5 (fun _ => 0)), (q61, jC r62 r63 r64 r65 r66), (r62, zC cA10 16 (fun _ => 0)), (r63, zC cA10 16 (fun _ => 0)), (r64, zC cA10 16 (fun _ => iI (-1))), (r65, zC cA10 16 (fun _ => 0)), (r66, zC cA10 5 (fun _ => 0))] H := hP
  have hD : va_D A [(h0, .inr (4, [.ref q1, .ref q3, .ref q5, .int (iI 0), .int (iI 0), .int (iI 0), .ref q7, .ref q8, .int (iI 0), .int (iI 0), .int (iI 0), .int (iI 0), .int (iI 0), .int (iI 0), .int (iI (-1)), .int (iI (-1)), .int (iI 0), .int (iI 0), .ref q9])), (q1, oC cA2 5 f20), (q3, oC cA4 16 f52), (q5, oC cA6 5 f60), (q7, rC), (q8, rC), (q9, zC cA10 16 (fun _ => 0)), (q11, hC), (q13, hC), (q15, hC), (q17, hC), (q19, hC), (q21, bC), (q23, bC), (q25, bC), (q27, bC), (q29, bC), (q31, bC), (q33, bC), (q35, bC), (q37, bC), (q39, bC), (q41, bC), (q43, bC), (q45, bC), (q47, bC), (q49, bC), (q51, bC), (q53, jC r54 r55 r56 r57 r58), (r54, zC cA10 16 (fun _ => 0)), (r55, zC cA10 16 (fun _ => 0)), (r56, zC cA10 16 (fun _ => iI (-1))), (r57, zC cA10 16 (fun _ => 0)), (r58, zC cA10 5 (fun _ => 0)), (q61, jC r62 r63 r64 r65 r66), (r62, zC cA10 16 (fun _ => 0)), (r63, zC cA10 16 (fun _ => 0)), (r64, zC cA10 16 (fun _ => iI (-1))), (r65, zC cA10 16 (fun _ => 0)), (r66, zC cA10 5 (fun _ => 0))] := hD
  refine W.widen (k := 39) (n := 406) (Nat.le_of_ble_eq_true rfl) (Nat.le_of_ble_eq_true rfl) ?_
  refine va_astq hx hb hK hP hD hS 3 2 34 2 rfl rfl rfl rfl (by unfold vp_in; decide +kernel) dX4_init_146 (fun H locs hP hD hS => ?_)
  obtain ⟨f68, hf68⟩ : ∃ f, f = va_up f60 (Int32.toNatClampNeg (iI 1)) (some q61) := ⟨_, rfl⟩
  have hP : va_P D vwCl [(h0, .inr (4, [.ref q1, .ref q3, .ref q5, .int (iI 0), .int (iI 0), .int (iI 0), .ref q7, .ref q8, .int (iI 0), .int (iI 0), .int (iI 0), .int (iI 0), .int (iI 0), .int (iI 0), .int (iI (-1)), .int (iI (-1)), .int (iI 0), .int (iI 0), .ref q9])), (q1, oC cA2 5 f20), (q3, oC cA4 16 f52), (q5, oC cA6 5 (va_up f60 (Int32.toNatClampNeg (iI 1)) (some q61))), (q7, rC), (q8, rC), (q9, zC cA10 16 (fun _ => 0)), (q11, hC), (q13, hC), (q15, hC), (q17, hC), (q19, hC), (q21, bC), (q23, bC), (q25, bC), (q27, bC), (q29, bC), (q31, bC), (q33, bC), (q35, bC), (q37, bC), (q39, bC), (q41, bC), (q43, bC), (q45, bC), (q47, bC), (q49, bC), (q51, bC), (q53, jC r54 r55 r56 r57 r58), (r54, zC cA10 16 (fun _ => 0)), (r55, zC cA10 16 (fun _ => 0)), (r56, zC cA10 16 (fun _ => iI (-1))), (r57, zC cA10 16 (fun _ => 0)), (r58, zC cA10 5 (fun _ => 0)), (q61, jC r62 r63 r64 r65 r66), (r62, zC cA10 16 (fun _ => 0)), (r63, zC cA10 16 (fun _ => 0)), (r64, zC cA10 16 (fun _ => iI (-1))), (r65, zC cA10 16 (fun _ => 0)), (r66, zC cA10 5 (fun _ => 0))] H := hP
  have hD : va_D A [(h0, .inr (4, [.ref q1, .ref q3, .ref q5, .int (iI 0), .int (iI 0), .int (iI 0), .ref q7, .ref q8, .int (iI 0), .int (iI 0), .int (iI 0), .int (iI 0), .int (iI 0), .int (iI 0), .int (iI (-1)), .int (iI (-1)), .int (iI 0), .int (iI 0), .ref q9])), (q1, oC cA2 5 f20), (q3, oC cA4 16 f52), (q5, oC cA6 5 (va_up f60 (Int32.toNatClampNeg (iI 1)) (some q61))), (q7, rC), (q8, rC), (q9, zC cA10 16 (fun _ => 0)), (q11, hC), (q13, hC), (q15, hC), (q17, hC), (q19, hC), (q21, bC), (q23, bC), (q25, bC), (q27, bC), (q29, bC), (q31, bC), (q33, bC), (q35, bC), (q37, bC), (q39, bC), (q41, bC), (q43, bC), (q45, bC), (q47, bC), (q49, bC), (q51, bC), (q53, jC r54 r55 r56 r57 r58), (r54, zC cA10 16 (fun _ => 0)), (r55, zC cA10 16 (fun _ => 0)), (r56, zC cA10 16 (fun _ => iI (-1))), (r57, zC cA10 16 (fun _ => 0)), (r58, zC cA10 5 (fun _ => 0)), (q61, jC r62 r63 r64 r65 r66), (r62, zC cA10 16 (fun _ => 0)), (r63, zC cA10 16 (fun _ => 0)), (r64, zC cA10 16 (fun _ => iI (-1))), (r65, zC cA10 16 (fun _ => 0)), (r66, zC cA10 5 (fun _ => 0))] := hD
  rw [← hf68] at hP hD
  refine lv_iinc (v := iI 2) (lv' := [(1, .int (iI 2)), (0, .ref h0)]) hx hb dX4_init_147 hl (k := 0) rfl (by decide) (by decide) rfl (fun ls hl => ?_)
  refine lv_goto (tgt := 129) hx hb dX4_init_150 (by decide) ?_
  refine lv_iload_n hx hb dX4_init_129 rfl (lv_at hl 0 rfl) ?_
  refine lv_iconst (v := iI 5) hx hb dX4_init_130 (by decide) ?_
  refine n_icmp_ge hx hb (by unfold RI; omega) (by unfold RI; omega) (tgt := 153) dX4_init_131 (by decide) (fun h => absurd h (by decide)) (fun _ => ?_)
  refine lv_aload_n hx hb dX4_init_134 rfl (lv_at hl 1 rfl) ?_
  refine va_get (D := D) (ci := 4) (v := .ref q5) (C := RX4) (T := TX4) (N := 19) hx hb hw hin_wsX40 hown hK hP 0 rfl rfl 2 (by decide) (hw _ kw_19) (fun _ h9 => h9) rfl dX4_init_135 ?_
  refine lv_iload_n hx hb dX4_init_138 rfl (lv_at hl 0 rfl) ?_
  refine va_new (ci := 2) (fs := [.int (iI 0), .int (iI 0), .int (iI 0), .int (iI 0), .int (iI 0), .null, .null, .int (iI 0), .int (iI 0), .int (iI 0), .int (iI 0), .null, .int (iI 0), .null, .null, .int (iI 0)]) (C := RX2) (T := TX2) (N := 16) hx hb hw hin_wsX20 tyX2 tyX2_ok hown (hw _ kw_18) (hw _ kw_33) (hw _ kw_34) hK hP hD hS hA rfl (fun j hj => by rcases (show j = 0 ∨ j = 1 ∨ j = 2 ∨ j = 3 ∨ j = 4 ∨ j = 5 ∨ j = 6 ∨ j = 7 ∨ j = 8 ∨ j = 9 ∨ j = 10 ∨ j = 11 ∨ j = 12 ∨ j = 13 ∨ j = 14 ∨ j = 15 by omega) with rfl | rfl | rfl | rfl | rfl | rfl | rfl | rfl | rfl | rfl | rfl | rfl | rfl | rfl | rfl | rfl <;> rfl) (Nat.le_of_ble_eq_true rfl) (Nat.le_of_ble_eq_true rfl) dX4_init_139 (fun q69 H hP hD hS => ?_)
  have hP : va_P D vwCl [(h0, .inr (4, [.ref q1, .ref q3, .ref q5, .int (iI 0), .int (iI 0), .int (iI 0), .ref q7, .ref q8, .int (iI 0), .int (iI 0), .int (iI 0), .int (iI 0), .int (iI 0), .int (iI 0), .int (iI (-1)), .int (iI (-1)), .int (iI 0), .int (iI 0), .ref q9])), (q1, oC cA2 5 f20), (q3, oC cA4 16 f52), (q5, oC cA6 5 f68), (q7, rC), (q8, rC), (q9, zC cA10 16 (fun _ => 0)), (q11, hC), (q13, hC), (q15, hC), (q17, hC), (q19, hC), (q21, bC), (q23, bC), (q25, bC), (q27, bC), (q29, bC), (q31, bC), (q33, bC), (q35, bC), (q37, bC), (q39, bC), (q41, bC), (q43, bC), (q45, bC), (q47, bC), (q49, bC), (q51, bC), (q53, jC r54 r55 r56 r57 r58), (r54, zC cA10 16 (fun _ => 0)), (r55, zC cA10 16 (fun _ => 0)), (r56, zC cA10 16 (fun _ => iI (-1))), (r57, zC cA10 16 (fun _ => 0)), (r58, zC cA10 5 (fun _ => 0)), (q61, jC r62 r63 r64 r65 r66), (r62, zC cA10 16 (fun _ => 0)), (r63, zC cA10 16 (fun _ => 0)), (r64, zC cA10 16 (fun _ => iI (-1))), (r65, zC cA10 16 (fun _ => 0)), (r66, zC cA10 5 (fun _ => 0)), (q69, jC0)] H := hP
  have hD : va_D A [(h0, .inr (4, [.ref q1, .ref q3, .ref q5, .int (iI 0), .int (iI 0), .int (iI 0), .ref q7, .ref q8, .int (iI 0), .int (iI 0), .int (iI 0), .int (iI 0), .int (iI 0), .int (iI 0), .int (iI (-1)), .int (iI (-1)), .int (iI 0), .int (iI 0), .ref q9])), (q1, oC cA2 5 f20), (q3, oC cA4 16 f52), (q5, oC cA6 5 f68), (q7, rC), (q8, rC), (q9, zC cA10 16 (fun _ => 0)), (q11, hC), (q13, hC), (q15, hC), (q17, hC), (q19, hC), (q21, bC), (q23, bC), (q25, bC), (q27, bC), (q29, bC), (q31, bC), (q33, bC), (q35, bC), (q37, bC), (q39, bC), (q41, bC), (q43, bC), (q45, bC), (q47, bC), (q49, bC), (q51, bC), (q53, jC r54 r55 r56 r57 r58), (r54, zC cA10 16 (fun _ => 0)), (r55, zC cA10 16 (fun _ => 0)), (r56, zC cA10 16 (fun _ => iI (-1))), (r57, zC cA10 16 (fun _ => 0)), (r58, zC cA10 5 (fun _ => 0)), (q61, jC r62 r63 r64 r65 r66), (r62, zC cA10 16 (fun _ => 0)), (r63, zC cA10 16 (fun _ => 0)), (r64, zC cA10 16 (fun _ => iI (-1))), (r65, zC cA10 16 (fun _ => 0)), (r66, zC cA10 5 (fun _ => 0)), (q69, jC0)] := hD
  refine W.widen (k := 40) (n := 422) (Nat.le_of_ble_eq_true rfl) (Nat.le_of_ble_eq_true rfl) ?_
  refine lv_dup hx hb dX4_init_142 rfl ?_
  have hPc := hP.sub (ws' := [(q69, jC0)]) [40] rfl
  have hKc := hK.sub (tys' := []) [] rfl
  have hDc := hD.sub (ws' := [(q69, jC0)]) [40] (by decide) rfl
  have hFc := va_free (wc := [(q69, jC0)]) hD hS hA [40] rfl
  refine va_callv (va_runI (As := []) (rest := [.ref q69, .int (iI 2), .ref q5]) ⟨hx, hb, hml, hown, hw⟩ (n_Judge l D q69 H.size) (cwI 0 hw (gA_c kw_52) rfl rfl rfl (hw _ kw_34) (hw _ kw_50) (hw _ kw_51) rfl (by decide +kernel) ⟨Nat.le_of_ble_eq_true rfl, Nat.le_of_ble_eq_true rfl⟩) (cS_s (As := [.ref q69]) hPc hDc hKc hE) rfl rfl hl.1 rfl (lv_room (Nat.le_of_ble_eq_true rfl)) dX4_init_143 ⟨Nat.le_of_ble_eq_true rfl, Nat.le_of_ble_eq_true rfl⟩) hS (fun q _ h => hFc q h) hFc (fun u t H1 locs ht hvm hw9 hB9 hz1 hk1 hS => ?_)
  obtain ⟨r70, r71, r72, r73, r74, ck75, hP1, hK1, hD1⟩ := hB9
  rw [ht] at hP1
  have hK1 := va_K.moved hvm.symm hK1
  have hK2 := hK.app hK1
  obtain rfl : cA10 = ck75 := ci_eq hK2 3 4 rfl rfl
  obtain ⟨hP, hD⟩ := va_join (wr := [(h0, .inr (4, [.ref q1, .ref q3, .ref q5, .int (iI 0), .int (iI 0), .int (iI 0), .ref q7, .ref q8, .int (iI 0), .int (iI 0), .int (iI 0), .int (iI 0), .int (iI 0), .int (iI 0), .int (iI (-1)), .int (iI (-1)), .int (iI 0), .int (iI 0), .ref q9])), (q1, oC cA2 5 f20), (q3, oC cA4 16 f52), (q5, oC cA6 5 f68), (q7, rC), (q8, rC), (q9, zC cA10 16 (fun _ => 0)), (q11, hC), (q13, hC), (q15, hC), (q17, hC), (q19, hC), (q21, bC), (q23, bC), (q25, bC), (q27, bC), (q29, bC), (q31, bC), (q33, bC), (q35, bC), (q37, bC), (q39, bC), (q41, bC), (q43, bC), (q45, bC), (q47, bC), (q49, bC), (q51, bC), (q53, jC r54 r55 r56 r57 r58), (r54, zC cA10 16 (fun _ => 0)), (r55, zC cA10 16 (fun _ => 0)), (r56, zC cA10 16 (fun _ => iI (-1))), (r57, zC cA10 16 (fun _ => 0)), (r58, zC cA10 5 (fun _ => 0)), (q61, jC r62 r63 r64 r65 r66), (r62, zC cA10 16 (fun _ => 0)), (r63, zC cA10 16 (fun _ => 0)), (r64, zC cA10 16 (fun _ => iI (-1))), (r65, zC cA10 16 (fun _ => 0)), (r66, zC cA10 5 (fun _ => 0))]) (w1 := [(q69, jC r70 r71 r72 r73 r74), (r70, zC cA10 16 (fun _ => 0)), (r71, zC cA10 16 (fun _ => 0)), (r72, zC cA10 16 (fun _ => iI (-1))), (r73, zC cA10 16 (fun _ => 0)), (r74, zC cA10 5 (fun _ => 0))]) hP hD [40] [0, 1, 2, 3, 4, 5, 6, 7, 8, 9, 10, 11, 12, 13, 14, 15, 16, 17, 18, 19, 20, 21, 22, 23, 24, 25, 26, 27, 28, 29, 30, 31, 32, 33, 34, 35, 36, 37, 38, 39] rfl rfl (by decide) (by decide) hk1 hFc hP1 hD1
  generalize H1 = H at hP hS ⊢
  have hP : va_P D vwCl [(h0, .inr (4, [.ref q1, .ref q3, .ref q5, .int (iI 0), .int (iI 0), .int (iI 0), .ref q7, .ref q8, .int (iI 0), .int (iI 0), .int (iI 0), .int (iI 0), .int (iI 0), .int (iI 0), .int (iI (-1)), .int (iI (-1)), .int (iI 0), .int (iI 0), .ref q9])), (q1, oC cA2 5 f20), (q3, oC cA4 16 f52), (q5, oC cA6 5 f68), (q7, rC), (q8, rC), (q9, zC cA10 16 (fun _ => 0)), (q11, hC), (q13, hC), (q15, hC), (q17, hC), (q19, hC), (q21, bC), (q23, bC), (q25, bC), (q27, bC), (q29, bC), (q31, bC), (q33, bC), (q35, bC), (q37, bC), (q39, bC), (q41, bC), (q43, bC), (q45, bC), (q47, bC), (q49, bC), (q51, bC), (q53, jC r54 r55 r56 r57 r58), (r54, zC cA10 16 (fun _ => 0)), (r55, zC cA10 16 (fun _ => 0)), (r56, zC cA10 16 (fun _ => iI (-1))), (r57, zC cA10 16 (fun _ => 0)), (r58, zC cA10 5 (fun _ => 0)), (q61, jC r62 r63 r64 r65 r66), (r62, zC cA10 16 (fun _ => 0)), (r63, zC cA10 16 (fun _ => 0)), (r64, zC cA10 16 (fun _ => iI (-1))), (r65, zC cA10 16 (fun _ => 0)), (r66, zC cA10 5 (fun _ => 0)), (q69, jC r70 r71 r72 r73 r74), (r70, zC cA10 16 (fun _ => 0)), (r71, zC cA10 16 (fun _ => 0)), (r72, zC cA10 16 (fun _ => iI (-1))), (r73, zC cA10 16 (fun _ => 0)), (r74, zC cA10 5 (fun _ => 0))] H := hP
  have hD : va_D A [(h0, .inr (4, [.ref q1, .ref q3, .ref q5, .int (iI 0), .int (iI 0), .int (iI 0), .ref q7, .ref q8, .int (iI 0), .int (iI 0), .int (iI 0), .int (iI 0), .int (iI 0), .int (iI 0), .int (iI (-1)), .int (iI (-1)), .int (iI 0), .int (iI 0), .ref q9])), (q1, oC cA2 5 f20), (q3, oC cA4 16 f52), (q5, oC cA6 5 f68), (q7, rC), (q8, rC), (q9, zC cA10 16 (fun _ => 0)), (q11, hC), (q13, hC), (q15, hC), (q17, hC), (q19, hC), (q21, bC), (q23, bC), (q25, bC), (q27, bC), (q29, bC), (q31, bC), (q33, bC), (q35, bC), (q37, bC), (q39, bC), (q41, bC), (q43, bC), (q45, bC), (q47, bC), (q49, bC), (q51, bC), (q53, jC r54 r55 r56 r57 r58), (r54, zC cA10 16 (fun _ => 0)), (r55, zC cA10 16 (fun _ => 0)), (r56, zC cA10 16 (fun _ => iI (-1))), (r57, zC cA10 16 (fun _ => 0)), (r58, zC cA10 5 (fun _ => 0)), (q61, jC r62 r63 r64 r65 r66), (r62, zC cA10 16 (fun _ => 0)), (r63, zC cA10 16 (fun _ => 0)), (r64, zC cA10 16 (fun _ => iI (-1))), (r65, zC cA10 16 (fun _ => 0)), (r66, zC cA10 5 (fun _ => 0)), (q69, jC r70 r71 r72 r73 r74), (r70, zC cA10 16 (fun _ => 0)), (r71, zC cA10 16 (fun _ => 0)), (r72, zC cA10 16 (fun _ => iI (-1))), (r73, zC cA10 16 (fun _ => 0)), (r74, zC cA10 5 (fun _ => 0))] := hD
  refine W.widen (k := 45) (n := 491) (Nat.le_of_ble_eq_true rfl) (Nat.le_of_ble_eq_true rfl) ?_
  refine va_astq hx hb hK hP hD hS 3 2 40 2 rfl rfl rfl rfl (by unfold vp_in; decide +kernel) dX4_init_146 (fun H locs hP hD hS => ?_)
  obtain ⟨f76, hf76⟩ : ∃ f, f = va_up f68 (Int32.toNatClampNeg (iI 2)) (some q69) := ⟨_, rfl⟩
  have hP : va_P D vwCl [(h0, .inr (4, [.ref q1, .ref q3, .ref q5, .int (iI 0), .int (iI 0), .int (iI 0), .ref q7, .ref q8, .int (iI 0), .int (iI 0), .int (iI 0), .int (iI 0), .int (iI 0), .int (iI 0), .int (iI (-1)), .int (iI (-1)), .int (iI 0), .int (iI 0), .ref q9])), (q1, oC cA2 5 f20), (q3, oC cA4 16 f52), (q5, oC cA6 5 (va_up f68 (Int32.toNatClampNeg (iI 2)) (some q69))), (q7, rC), (q8, rC), (q9, zC cA10 16 (fun _ => 0)), (q11, hC), (q13, hC), (q15, hC), (q17, hC), (q19, hC), (q21, bC), (q23, bC), (q25, bC), (q27, bC), (q29, bC), (q31, bC), (q33, bC), (q35, bC), (q37, bC), (q39, bC), (q41, bC), (q43, bC), (q45, bC), (q47, bC), (q49, bC), (q51, bC), (q53, jC r54 r55 r56 r57 r58), (r54, zC cA10 16 (fun _ => 0)), (r55, zC cA10 16 (fun _ => 0)), (r56, zC cA10 16 (fun _ => iI (-1))), (r57, zC cA10 16 (fun _ => 0)), (r58, zC cA10 5 (fun _ => 0)), (q61, jC r62 r63 r64 r65 r66), (r62, zC cA10 16 (fun _ => 0)), (r63, zC cA10 16 (fun _ => 0)), (r64, zC cA10 16 (fun _ => iI (-1))), (r65, zC cA10 16 (fun _ => 0)), (r66, zC cA10 5 (fun _ => 0)), (q69, jC r70 r71 r72 r73 r74), (r70, zC cA10 16 (fun _ => 0)), (r71, zC cA10 16 (fun _ => 0)), (r72, zC cA10 16 (fun _ => iI (-1))), (r73, zC cA10 16 (fun _ => 0)), (r74, zC cA10 5 (fun _ => 0))] H := hP
  have hD : va_D A [(h0, .inr (4, [.ref q1, .ref q3, .ref q5, .int (iI 0), .int (iI 0), .int (iI 0), .ref q7, .ref q8, .int (iI 0), .int (iI 0), .int (iI 0), .int (iI 0), .int (iI 0), .int (iI 0), .int (iI (-1)), .int (iI (-1)), .int (iI 0), .int (iI 0), .ref q9])), (q1, oC cA2 5 f20), (q3, oC cA4 16 f52), (q5, oC cA6 5 (va_up f68 (Int32.toNatClampNeg (iI 2)) (some q69))), (q7, rC), (q8, rC), (q9, zC cA10 16 (fun _ => 0)), (q11, hC), (q13, hC), (q15, hC), (q17, hC), (q19, hC), (q21, bC), (q23, bC), (q25, bC), (q27, bC), (q29, bC), (q31, bC), (q33, bC), (q35, bC), (q37, bC), (q39, bC), (q41, bC), (q43, bC), (q45, bC), (q47, bC), (q49, bC), (q51, bC), (q53, jC r54 r55 r56 r57 r58), (r54, zC cA10 16 (fun _ => 0)), (r55, zC cA10 16 (fun _ => 0)), (r56, zC cA10 16 (fun _ => iI (-1))), (r57, zC cA10 16 (fun _ => 0)), (r58, zC cA10 5 (fun _ => 0)), (q61, jC r62 r63 r64 r65 r66), (r62, zC cA10 16 (fun _ => 0)), (r63, zC cA10 16 (fun _ => 0)), (r64, zC cA10 16 (fun _ => iI (-1))), (r65, zC cA10 16 (fun _ => 0)), (r66, zC cA10 5 (fun _ => 0)), (q69, jC r70 r71 r72 r73 r74), (r70, zC cA10 16 (fun _ => 0)), (r71, zC cA10 16 (fun _ => 0)), (r72, zC cA10 16 (fun _ => iI (-1))), (r73, zC cA10 16 (fun _ => 0)), (r74, zC cA10 5 (fun _ => 0))] := hD
  rw [← hf76] at hP hD
  refine lv_iinc (v := iI 3) (lv' := [(1, .int (iI 3)), (0, .ref h0)]) hx hb dX4_init_147 hl (k := 0) rfl (by decide) (by decide) rfl (fun ls hl => ?_)
  refine lv_goto (tgt := 129) hx hb dX4_init_150 (by decide) ?_
  refine lv_iload_n hx hb dX4_init_129 rfl (lv_at hl 0 rfl) ?_
  refine lv_iconst (v := iI 5) hx hb dX4_init_130 (by decide) ?_
  refine n_icmp_ge hx hb (by unfold RI; omega) (by unfold RI; omega) (tgt := 153) dX4_init_131 (by decide) (fun h => absurd h (by decide)) (fun _ => ?_)
  refine lv_aload_n hx hb dX4_init_134 rfl (lv_at hl 1 rfl) ?_
  refine va_get (D := D) (ci := 4) (v := .ref q5) (C := RX4) (T := TX4) (N := 19) hx hb hw hin_wsX40 hown hK hP 0 rfl rfl 2 (by decide) (hw _ kw_19) (fun _ h9 => h9) rfl dX4_init_135 ?_
  refine lv_iload_n hx hb dX4_init_138 rfl (lv_at hl 0 rfl) ?_
  refine va_new (ci := 2) (fs := [.int (iI 0), .int (iI 0), .int (iI 0), .int (iI 0), .int (iI 0), .null, .null, .int (iI 0), .int (iI 0), .int (iI 0), .int (iI 0), .null, .int (iI 0), .null, .null, .int (iI 0)]) (C := RX2) (T := TX2) (N := 16) hx hb hw hin_wsX20 tyX2 tyX2_ok hown (hw _ kw_18) (hw _ kw_33) (hw _ kw_34) hK hP hD hS hA rfl (fun j hj => by rcases (show j = 0 ∨ j = 1 ∨ j = 2 ∨ j = 3 ∨ j = 4 ∨ j = 5 ∨ j = 6 ∨ j = 7 ∨ j = 8 ∨ j = 9 ∨ j = 10 ∨ j = 11 ∨ j = 12 ∨ j = 13 ∨ j = 14 ∨ j = 15 by omega) with rfl | rfl | rfl | rfl | rfl | rfl | rfl | rfl | rfl | rfl | rfl | rfl | rfl | rfl | rfl | rfl <;> rfl) (Nat.le_of_ble_eq_true rfl) (Nat.le_of_ble_eq_true rfl) dX4_init_139 (fun q77 H hP hD hS => ?_)
  have hP : va_P D vwCl [(h0, .inr (4, [.ref q1, .ref q3, .ref q5, .int (iI 0), .int (iI 0), .int (iI 0), .ref q7, .ref q8, .int (iI 0), .int (iI 0), .int (iI 0), .int (iI 0), .int (iI 0), .int (iI 0), .int (iI (-1)), .int (iI (-1)), .int (iI 0), .int (iI 0), .ref q9])), (q1, oC cA2 5 f20), (q3, oC cA4 16 f52), (q5, oC cA6 5 f76), (q7, rC), (q8, rC), (q9, zC cA10 16 (fun _ => 0)), (q11, hC), (q13, hC), (q15, hC), (q17, hC), (q19, hC), (q21, bC), (q23, bC), (q25, bC), (q27, bC), (q29, bC), (q31, bC), (q33, bC), (q35, bC), (q37, bC), (q39, bC), (q41, bC), (q43, bC), (q45, bC), (q47, bC), (q49, bC), (q51, bC), (q53, jC r54 r55 r56 r57 r58), (r54, zC cA10 16 (fun _ => 0)), (r55, zC cA10 16 (fun _ => 0)), (r56, zC cA10 16 (fun _ => iI (-1))), (r57, zC cA10 16 (fun _ => 0)), (r58, zC cA10 5 (fun _ => 0)), (q61, jC r62 r63 r64 r65 r66), (r62, zC cA10 16 (fun _ => 0)), (r63, zC cA10 16 (fun _ => 0)), (r64, zC cA10 16 (fun _ => iI (-1))), (r65, zC cA10 16 (fun _ => 0)), (r66, zC cA10 5 (fun _ => 0)), (q69, jC r70 r71 r72 r73 r74), (r70, zC cA10 16 (fun _ => 0)), (r71, zC cA10 16 (fun _ => 0)), (r72, zC cA10 16 (fun _ => iI (-1))), (r73, zC cA10 16 (fun _ => 0)), (r74, zC cA10 5 (fun _ => 0)), (q77, jC0)] H := hP
  have hD : va_D A [(h0, .inr (4, [.ref q1, .ref q3, .ref q5, .int (iI 0), .int (iI 0), .int (iI 0), .ref q7, .ref q8, .int (iI 0), .int (iI 0), .int (iI 0), .int (iI 0), .int (iI 0), .int (iI 0), .int (iI (-1)), .int (iI (-1)), .int (iI 0), .int (iI 0), .ref q9])), (q1, oC cA2 5 f20), (q3, oC cA4 16 f52), (q5, oC cA6 5 f76), (q7, rC), (q8, rC), (q9, zC cA10 16 (fun _ => 0)), (q11, hC), (q13, hC), (q15, hC), (q17, hC), (q19, hC), (q21, bC), (q23, bC), (q25, bC), (q27, bC), (q29, bC), (q31, bC), (q33, bC), (q35, bC), (q37, bC), (q39, bC), (q41, bC), (q43, bC), (q45, bC), (q47, bC), (q49, bC), (q51, bC), (q53, jC r54 r55 r56 r57 r58), (r54, zC cA10 16 (fun _ => 0)), (r55, zC cA10 16 (fun _ => 0)), (r56, zC cA10 16 (fun _ => iI (-1))), (r57, zC cA10 16 (fun _ => 0)), (r58, zC cA10 5 (fun _ => 0)), (q61, jC r62 r63 r64 r65 r66), (r62, zC cA10 16 (fun _ => 0)), (r63, zC cA10 16 (fun _ => 0)), (r64, zC cA10 16 (fun _ => iI (-1))), (r65, zC cA10 16 (fun _ => 0)), (r66, zC cA10 5 (fun _ => 0)), (q69, jC r70 r71 r72 r73 r74), (r70, zC cA10 16 (fun _ => 0)), (r71, zC cA10 16 (fun _ => 0)), (r72, zC cA10 16 (fun _ => iI (-1))), (r73, zC cA10 16 (fun _ => 0)), (r74, zC cA10 5 (fun _ => 0)), (q77, jC0)] := hD
  refine W.widen (k := 46) (n := 507) (Nat.le_of_ble_eq_true rfl) (Nat.le_of_ble_eq_true rfl) ?_
  refine lv_dup hx hb dX4_init_142 rfl ?_
  have hPc := hP.sub (ws' := [(q77, jC0)]) [46] rfl
  have hKc := hK.sub (tys' := []) [] rfl
  have hDc := hD.sub (ws' := [(q77, jC0)]) [46] (by decide) rfl
  have hFc := va_free (wc := [(q77, jC0)]) hD hS hA [46] rfl
  refine va_callv (va_runI (As := []) (rest := [.ref q77, .int (iI 3), .ref q5]) ⟨hx, hb, hml, hown, hw⟩ (n_Judge l D q77 H.size) (cwI 0 hw (gA_c kw_52) rfl rfl rfl (hw _ kw_34) (hw _ kw_50) (hw _ kw_51) rfl (by decide +kernel) ⟨Nat.le_of_ble_eq_true rfl, Nat.le_of_ble_eq_true rfl⟩) (cS_s (As := [.ref q77]) hPc hDc hKc hE) rfl rfl hl.1 rfl (lv_room (Nat.le_of_ble_eq_true rfl)) dX4_init_143 ⟨Nat.le_of_ble_eq_true rfl, Nat.le_of_ble_eq_true rfl⟩) hS (fun q _ h => hFc q h) hFc (fun u t H1 locs ht hvm hw9 hB9 hz1 hk1 hS => ?_)
  obtain ⟨r78, r79, r80, r81, r82, ck83, hP1, hK1, hD1⟩ := hB9
  rw [ht] at hP1
  have hK1 := va_K.moved hvm.symm hK1
  have hK2 := hK.app hK1
  obtain rfl : cA10 = ck83 := ci_eq hK2 3 4 rfl rfl
  obtain ⟨hP, hD⟩ := va_join (wr := [(h0, .inr (4, [.ref q1, .ref q3, .ref q5, .int (iI 0), .int (iI 0), .int (iI 0), .ref q7, .ref q8, .int (iI 0), .int (iI 0), .int (iI 0), .int (iI 0), .int (iI 0), .int (iI 0), .int (iI (-1)), .int (iI (-1)), .int (iI 0), .int (iI 0), .ref q9])), (q1, oC cA2 5 f20), (q3, oC cA4 16 f52), (q5, oC cA6 5 f76), (q7, rC), (q8, rC), (q9, zC cA10 16 (fun _ => 0)), (q11, hC), (q13, hC), (q15, hC), (q17, hC), (q19, hC), (q21, bC), (q23, bC), (q25, bC), (q27, bC), (q29, bC), (q31, bC), (q33, bC), (q35, bC), (q37, bC), (q39, bC), (q41, bC), (q43, bC), (q45, bC), (q47, bC), (q49, bC), (q51, bC), (q53, jC r54 r55 r56 r57 r58), (r54, zC cA10 16 (fun _ => 0)), (r55, zC cA10 16 (fun _ => 0)), (r56, zC cA10 16 (fun _ => iI (-1))), (r57, zC cA10 16 (fun _ => 0)), (r58, zC cA10 5 (fun _ => 0)), (q61, jC r62 r63 r64 r65 r66), (r62, zC cA10 16 (fun _ => 0)), (r63, zC cA10 16 (fun _ => 0)), (r64, zC cA10 16 (fun _ => iI (-1))), (r65, zC cA10 16 (fun _ => 0)), (r66, zC cA10 5 (fun _ => 0)), (q69, jC r70 r71 r72 r73 r74), (r70, zC cA10 16 (fun _ => 0)), (r71, zC cA10 16 (fun _ => 0)), (r72, zC cA10 16 (fun _ => iI (-1))), (r73, zC cA10 16 (fun _ => 0)), (r74, zC cA10 5 (fun _ => 0))]) (w1 := [(q77, jC r78 r79 r80 r81 r82), (r78, zC cA10 16 (fun _ => 0)), (r79, zC cA10 16 (fun _ => 0)), (r80, zC cA10 16 (fun _ => iI (-1))), (r81, zC cA10 16 (fun _ => 0)), (r82, zC cA10 5 (fun _ => 0))]) hP hD [46] [0, 1, 2, 3, 4, 5, 6, 7, 8, 9, 10, 11, 12, 13, 14, 15, 16, 17, 18, 19, 20, 21, 22, 23, 24, 25, 26, 27, 28, 29, 30, 31, 32, 33, 34, 35, 36, 37, 38, 39, 40, 41, 42, 43, 44, 45] rfl rfl (by decide) (by decide) hk1 hFc hP1 hD1
  generalize H1 = H at hP hS ⊢
  have hP : va_P D vwCl [(h0, .inr (4, [.ref q1, .ref q3, .ref q5, .int (iI 0), .int (iI 0), .int (iI 0), .ref q7, .ref q8, .int (iI 0), .int (iI 0), .int (iI 0), .int (iI 0), .int (iI 0), .int (iI 0), .int (iI (-1)), .int (iI (-1)), .int (iI 0), .int (iI 0), .ref q9])), (q1, oC cA2 5 f20), (q3, oC cA4 16 f52), (q5, oC cA6 5 f76), (q7, rC), (q8, rC), (q9, zC cA10 16 (fun _ => 0)), (q11, hC), (q13, hC), (q15, hC), (q17, hC), (q19, hC), (q21, bC), (q23, bC), (q25, bC), (q27, bC), (q29, bC), (q31, bC), (q33, bC), (q35, bC), (q37, bC), (q39, bC), (q41, bC), (q43, bC), (q45, bC), (q47, bC), (q49, bC), (q51, bC), (q53, jC r54 r55 r56 r57 r58), (r54, zC cA10 16 (fun _ => 0)), (r55, zC cA10 16 (fun _ => 0)), (r56, zC cA10 16 (fun _ => iI (-1))), (r57, zC cA10 16 (fun _ => 0)), (r58, zC cA10 5 (fun _ => 0)), (q61, jC r62 r63 r64 r65 r66), (r62, zC cA10 16 (fun _ => 0)), (r63, zC cA10 16 (fun _ => 0)), (r64, zC cA10 16 (fun _ => iI (-1))), (r65, zC cA10 16 (fun _ => 0)), (r66, zC cA10 5 (fun _ => 0)), (q69, jC r70 r71 r72 r73 r74), (r70, zC cA10 16 (fun _ => 0)), (r71, zC cA10 16 (fun _ => 0)), (r72, zC cA10 16 (fun _ => iI (-1))), (r73, zC cA10 16 (fun _ => 0)), (r74, zC cA10 5 (fun _ => 0)), (q77, jC r78 r79 r80 r81 r82), (r78, zC cA10 16 (fun _ => 0)), (r79, zC cA10 16 (fun _ => 0)), (r80, zC cA10 16 (fun _ => iI (-1))), (r81, zC cA10 16 (fun _ => 0)), (r82, zC cA10 5 (fun _ => 0))] H := hP
  have hD : va_D A [(h0, .inr (4, [.ref q1, .ref q3, .ref q5, .int (iI 0), .int (iI 0), .int (iI 0), .ref q7, .ref q8, .int (iI 0), .int (iI 0), .int (iI 0), .int (iI 0), .int (iI 0), .int (iI 0), .int (iI (-1)), .int (iI (-1)), .int (iI 0), .int (iI 0), .ref q9])), (q1, oC cA2 5 f20), (q3, oC cA4 16 f52), (q5, oC cA6 5 f76), (q7, rC), (q8, rC), (q9, zC cA10 16 (fun _ => 0)), (q11, hC), (q13, hC), (q15, hC), (q17, hC), (q19, hC), (q21, bC), (q23, bC), (q25, bC), (q27, bC), (q29, bC), (q31, bC), (q33, bC), (q35, bC), (q37, bC), (q39, bC), (q41, bC), (q43, bC), (q45, bC), (q47, bC), (q49, bC), (q51, bC), (q53, jC r54 r55 r56 r57 r58), (r54, zC cA10 16 (fun _ => 0)), (r55, zC cA10 16 (fun _ => 0)), (r56, zC cA10 16 (fun _ => iI (-1))), (r57, zC cA10 16 (fun _ => 0)), (r58, zC cA10 5 (fun _ => 0)), (q61, jC r62 r63 r64 r65 r66), (r62, zC cA10 16 (fun _ => 0)), (r63, zC cA10 16 (fun _ => 0)), (r64, zC cA10 16 (fun _ => iI (-1))), (r65, zC cA10 16 (fun _ => 0)), (r66, zC cA10 5 (fun _ => 0)), (q69, jC r70 r71 r72 r73 r74), (r70, zC cA10 16 (fun _ => 0)), (r71, zC cA10 16 (fun _ => 0)), (r72, zC cA10 16 (fun _ => iI (-1))), (r73, zC cA10 16 (fun _ => 0)), (r74, zC cA10 5 (fun _ => 0)), (q77, jC r78 r79 r80 r81 r82), (r78, zC cA10 16 (fun _ => 0)), (r79, zC cA10 16 (fun _ => 0)), (r80, zC cA10 16 (fun _ => iI (-1))), (r81, zC cA10 16 (fun _ => 0)), (r82, zC cA10 5 (fun _ => 0))] := hD
  refine W.widen (k := 51) (n := 576) (Nat.le_of_ble_eq_true rfl) (Nat.le_of_ble_eq_true rfl) ?_
  refine va_astq hx hb hK hP hD hS 3 2 46 2 rfl rfl rfl rfl (by unfold vp_in; decide +kernel) dX4_init_146 (fun H locs hP hD hS => ?_)
  obtain ⟨f84, hf84⟩ : ∃ f, f = va_up f76 (Int32.toNatClampNeg (iI 3)) (some q77) := ⟨_, rfl⟩
  have hP : va_P D vwCl [(h0, .inr (4, [.ref q1, .ref q3, .ref q5, .int (iI 0), .int (iI 0), .int (iI 0), .ref q7, .ref q8, .int (iI 0), .int (iI 0), .int (iI 0), .int (iI 0), .int (iI 0), .int (iI 0), .int (iI (-1)), .int (iI (-1)), .int (iI 0), .int (iI 0), .ref q9])), (q1, oC cA2 5 f20), (q3, oC cA4 16 f52), (q5, oC cA6 5 (va_up f76 (Int32.toNatClampNeg (iI 3)) (some q77))), (q7, rC), (q8, rC), (q9, zC cA10 16 (fun _ => 0)), (q11, hC), (q13, hC), (q15, hC), (q17, hC), (q19, hC), (q21, bC), (q23, bC), (q25, bC), (q27, bC), (q29, bC), (q31, bC), (q33, bC), (q35, bC), (q37, bC), (q39, bC), (q41, bC), (q43, bC), (q45, bC), (q47, bC), (q49, bC), (q51, bC), (q53, jC r54 r55 r56 r57 r58), (r54, zC cA10 16 (fun _ => 0)), (r55, zC cA10 16 (fun _ => 0)), (r56, zC cA10 16 (fun _ => iI (-1))), (r57, zC cA10 16 (fun _ => 0)), (r58, zC cA10 5 (fun _ => 0)), (q61, jC r62 r63 r64 r65 r66), (r62, zC cA10 16 (fun _ => 0)), (r63, zC cA10 16 (fun _ => 0)), (r64, zC cA10 16 (fun _ => iI (-1))), (r65, zC cA10 16 (fun _ => 0)), (r66, zC cA10 5 (fun _ => 0)), (q69, jC r70 r71 r72 r73 r74), (r70, zC cA10 16 (fun _ => 0)), (r71, zC cA10 16 (fun _ => 0)), (r72, zC cA10 16 (fun _ => iI (-1))), (r73, zC cA10 16 (fun _ => 0)), (r74, zC cA10 5 (fun _ => 0)), (q77, jC r78 r79 r80 r81 r82), (r78, zC cA10 16 (fun _ => 0)), (r79, zC cA10 16 (fun _ => 0)), (r80, zC cA10 16 (fun _ => iI (-1))), (r81, zC cA10 16 (fun _ => 0)), (r82, zC cA10 5 (fun _ => 0))] H := hP
  have hD : va_D A [(h0, .inr (4, [.ref q1, .ref q3, .ref q5, .int (iI 0), .int (iI 0), .int (iI 0), .ref q7, .ref q8, .int (iI 0), .int (iI 0), .int (iI 0), .int (iI 0), .int (iI 0), .int (iI 0), .int (iI (-1)), .int (iI (-1)), .int (iI 0), .int (iI 0), .ref q9])), (q1, oC cA2 5 f20), (q3, oC cA4 16 f52), (q5, oC cA6 5 (va_up f76 (Int32.toNatClampNeg (iI 3)) (some q77))), (q7, rC), (q8, rC), (q9, zC cA10 16 (fun _ => 0)), (q11, hC), (q13, hC), (q15, hC), (q17, hC), (q19, hC), (q21, bC), (q23, bC), (q25, bC), (q27, bC), (q29, bC), (q31, bC), (q33, bC), (q35, bC), (q37, bC), (q39, bC), (q41, bC), (q43, bC), (q45, bC), (q47, bC), (q49, bC), (q51, bC), (q53, jC r54 r55 r56 r57 r58), (r54, zC cA10 16 (fun _ => 0)), (r55, zC cA10 16 (fun _ => 0)), (r56, zC cA10 16 (fun _ => iI (-1))), (r57, zC cA10 16 (fun _ => 0)), (r58, zC cA10 5 (fun _ => 0)), (q61, jC r62 r63 r64 r65 r66), (r62, zC cA10 16 (fun _ => 0)), (r63, zC cA10 16 (fun _ => 0)), (r64, zC cA10 16 (fun _ => iI (-1))), (r65, zC cA10 16 (fun _ => 0)), (r66, zC cA10 5 (fun _ => 0)), (q69, jC r70 r71 r72 r73 r74), (r70, zC cA10 16 (fun _ => 0)), (r71, zC cA10 16 (fun _ => 0)), (r72, zC cA10 16 (fun _ => iI (-1))), (r73, zC cA10 16 (fun _ => 0)), (r74, zC cA10 5 (fun _ => 0)), (q77, jC r78 r79 r80 r81 r82), (r78, zC cA10 16 (fun _ => 0)), (r79, zC cA10 16 (fun _ => 0)), (r80, zC cA10 16 (fun _ => iI (-1))), (r81, zC cA10 16 (fun _ => 0)), (r82, zC cA10 5 (fun _ => 0))] := hD
  rw [← hf84] at hP hD
  refine lv_iinc (v := iI 4) (lv' := [(1, .int (iI 4)), (0, .ref h0)]) hx hb dX4_init_147 hl (k := 0) rfl (by decide) (by decide) rfl (fun ls hl => ?_)
  refine lv_goto (tgt := 129) hx hb dX4_init_150 (by decide) ?_
  refine lv_iload_n hx hb dX4_init_129 rfl (lv_at hl 0 rfl) ?_
  refine lv_iconst (v := iI 5) hx hb dX4_init_130 (by decide) ?_
  refine n_icmp_ge hx hb (by unfold RI; omega) (by unfold RI; omega) (tgt := 153) dX4_init_131 (by decide) (fun h => absurd h (by decide)) (fun _ => ?_)
  refine lv_aload_n hx hb dX4_init_134 rfl (lv_at hl 1 rfl) ?_
  refine va_get (D := D) (ci := 4) (v := .ref q5) (C := RX4) (T := TX4) (N := 19) hx hb hw hin_wsX40 hown hK hP 0 rfl rfl 2 (by decide) (hw _ kw_19) (fun _ h9 => h9) rfl dX4_init_135 ?_
  refine lv_iload_n hx hb dX4_init_138 rfl (lv_at hl 0 rfl) ?_
  refine va_new (ci := 2) (fs := [.int (iI 0), .int (iI 0), .int (iI 0), .int (iI 0), .int (iI 0), .null, .null, .int (iI 0), .int (iI 0), .int (iI 0), .int (iI 0), .null, .int (iI 0), .null, .null, .int (iI 0)]) (C := RX2) (T := TX2) (N := 16) hx hb hw hin_wsX20 tyX2 tyX2_ok hown (hw _ kw_18) (hw _ kw_33) (hw _ kw_34) hK hP hD hS hA rfl (fun j hj => by rcases (show j = 0 ∨ j = 1 ∨ j = 2 ∨ j = 3 ∨ j = 4 ∨ j = 5 ∨ j = 6 ∨ j = 7 ∨ j = 8 ∨ j = 9 ∨ j = 10 ∨ j = 11 ∨ j = 12 ∨ j = 13 ∨ j = 14 ∨ j = 15 by omega) with rfl | rfl | rfl | rfl | rfl | rfl | rfl | rfl | rfl | rfl | rfl | rfl | rfl | rfl | rfl | rfl <;> rfl) (Nat.le_of_ble_eq_true rfl) (Nat.le_of_ble_eq_true rfl) dX4_init_139 (fun q85 H hP hD hS => ?_)
  have hP : va_P D vwCl [(h0, .inr (4, [.ref q1, .ref q3, .ref q5, .int (iI 0), .int (iI 0), .int (iI 0), .ref q7, .ref q8, .int (iI 0), .int (iI 0), .int (iI 0), .int (iI 0), .int (iI 0), .int (iI 0), .int (iI (-1)), .int (iI (-1)), .int (iI 0), .int (iI 0), .ref q9])), (q1, oC cA2 5 f20), (q3, oC cA4 16 f52), (q5, oC cA6 5 f84), (q7, rC), (q8, rC), (q9, zC cA10 16 (fun _ => 0)), (q11, hC), (q13, hC), (q15, hC), (q17, hC), (q19, hC), (q21, bC), (q23, bC), (q25, bC), (q27, bC), (q29, bC), (q31, bC), (q33, bC), (q35, bC), (q37, bC), (q39, bC), (q41, bC), (q43, bC), (q45, bC), (q47, bC), (q49, bC), (q51, bC), (q53, jC r54 r55 r56 r57 r58), (r54, zC cA10 16 (fun _ => 0)), (r55, zC cA10 16 (fun _ => 0)), (r56, zC cA10 16 (fun _ => iI (-1))), (r57, zC cA10 16 (fun _ => 0)), (r58, zC cA10 5 (fun _ => 0)), (q61, jC r62 r63 r64 r65 r66), (r62, zC cA10 16 (fun _ => 0)), (r63, zC cA10 16 (fun _ => 0)), (r64, zC cA10 16 (fun _ => iI (-1))), (r65, zC cA10 16 (fun _ => 0)), (r66, zC cA10 5 (fun _ => 0)), (q69, jC r70 r71 r72 r73 r74), (r70, zC cA10 16 (fun _ => 0)), (r71, zC cA10 16 (fun _ => 0)), (r72, zC cA10 16 (fun _ => iI (-1))), (r73, zC cA10 16 (fun _ => 0)), (r74, zC cA10 5 (fun _ => 0)), (q77, jC r78 r79 r80 r81 r82), (r78, zC cA10 16 (fun _ => 0)), (r79, zC cA10 16 (fun _ => 0)), (r80, zC cA10 16 (fun _ => iI (-1))), (r81, zC cA10 16 (fun _ => 0)), (r82, zC cA10 5 (fun _ => 0)), (q85, jC0)] H := hP
  have hD : va_D A [(h0, .inr (4, [.ref q1, .ref q3, .ref q5, .int (iI 0), .int (iI 0), .int (iI 0), .ref q7, .ref q8, .int (iI 0), .int (iI 0), .int (iI 0), .int (iI 0), .int (iI 0), .int (iI 0), .int (iI (-1)), .int (iI (-1)), .int (iI 0), .int (iI 0), .ref q9])), (q1, oC cA2 5 f20), (q3, oC cA4 16 f52), (q5, oC cA6 5 f84), (q7, rC), (q8, rC), (q9, zC cA10 16 (fun _ => 0)), (q11, hC), (q13, hC), (q15, hC), (q17, hC), (q19, hC), (q21, bC), (q23, bC), (q25, bC), (q27, bC), (q29, bC), (q31, bC), (q33, bC), (q35, bC), (q37, bC), (q39, bC), (q41, bC), (q43, bC), (q45, bC), (q47, bC), (q49, bC), (q51, bC), (q53, jC r54 r55 r56 r57 r58), (r54, zC cA10 16 (fun _ => 0)), (r55, zC cA10 16 (fun _ => 0)), (r56, zC cA10 16 (fun _ => iI (-1))), (r57, zC cA10 16 (fun _ => 0)), (r58, zC cA10 5 (fun _ => 0)), (q61, jC r62 r63 r64 r65 r66), (r62, zC cA10 16 (fun _ => 0)), (r63, zC cA10 16 (fun _ => 0)), (r64, zC cA10 16 (fun _ => iI (-1))), (r65, zC cA10 16 (fun _ => 0)), (r66, zC cA10 5 (fun _ => 0)), (q69, jC r70 r71 r72 r73 r74), (r70, zC cA10 16 (fun _ => 0)), (r71, zC cA10 16 (fun _ => 0)), (r72, zC cA10 16 (fun _ => iI (-1))), (r73, zC cA10 16 (fun _ => 0)), (r74, zC cA10 5 (fun _ => 0)), (q77, jC r78 r79 r80 r81 r82), (r78, zC cA10 16 (fun _ => 0)), (r79, zC cA10 16 (fun _ => 0)), (r80, zC cA10 16 (fun _ => iI (-1))), (r81, zC cA10 16 (fun _ => 0)), (r82, zC cA10 5 (fun _ => 0)), (q85, jC0)] := hD
  refine W.widen (k := 52) (n := 592) (Nat.le_of_ble_eq_true rfl) (Nat.le_of_ble_eq_true rfl) ?_
  refine lv_dup hx hb dX4_init_142 rfl ?_
  have hPc := hP.sub (ws' := [(q85, jC0)]) [52] rfl
  have hKc := hK.sub (tys' := []) [] rfl
  have hDc := hD.sub (ws' := [(q85, jC0)]) [52] (by decide) rfl
  have hFc := va_free (wc := [(q85, jC0)]) hD hS hA [52] rfl
  refine va_callv (va_runI (As := []) (rest := [.ref q85, .int (iI 4), .ref q5]) ⟨hx, hb, hml, hown, hw⟩ (n_Judge l D q85 H.size) (cwI 0 hw (gA_c kw_52) rfl rfl rfl (hw _ kw_34) (hw _ kw_50) (hw _ kw_51) rfl (by decide +kernel) ⟨Nat.le_of_ble_eq_true rfl, Nat.le_of_ble_eq_true rfl⟩) (cS_s (As := [.ref q85]) hPc hDc hKc hE) rfl rfl hl.1 rfl (lv_room (Nat.le_of_ble_eq_true rfl)) dX4_init_143 ⟨Nat.le_of_ble_eq_true rfl, Nat.le_of_ble_eq_true rfl⟩) hS (fun q _ h => hFc q h) hFc (fun u t H1 locs ht hvm hw9 hB9 hz1 hk1 hS => ?_)
  obtain ⟨r86, r87, r88, r89, r90, ck91, hP1, hK1, hD1⟩ := hB9
  rw [ht] at hP1
  have hK1 := va_K.moved hvm.symm hK1
  have hK2 := hK.app hK1
  obtain rfl : cA10 = ck91 := ci_eq hK2 3 4 rfl rfl
  obtain ⟨hP, hD⟩ := va_join (wr := [(h0, .inr (4, [.ref q1, .ref q3, .ref q5, .int (iI 0), .int (iI 0), .int (iI 0), .ref q7, .ref q8, .int (iI 0), .int (iI 0), .int (iI 0), .int (iI 0), .int (iI 0), .int (iI 0), .int (iI (-1)), .int (iI (-1)), .int (iI 0), .int (iI 0), .ref q9])), (q1, oC cA2 5 f20), (q3, oC cA4 16 f52), (q5, oC cA6 5 f84), (q7, rC), (q8, rC), (q9, zC cA10 16 (fun _ => 0)), (q11, hC), (q13, hC), (q15, hC), (q17, hC), (q19, hC), (q21, bC), (q23, bC), (q25, bC), (q27, bC), (q29, bC), (q31, bC), (q33, bC), (q35, bC), (q37, bC), (q39, bC), (q41, bC), (q43, bC), (q45, bC), (q47, bC), (q49, bC), (q51, bC), (q53, jC r54 r55 r56 r57 r58), (r54, zC cA10 16 (fun _ => 0)), (r55, zC cA10 16 (fun _ => 0)), (r56, zC cA10 16 (fun _ => iI (-1))), (r57, zC cA10 16 (fun _ => 0)), (r58, zC cA10 5 (fun _ => 0)), (q61, jC r62 r63 r64 r65 r66), (r62, zC cA10 16 (fun _ => 0)), (r63, zC cA10 16 (fun _ => 0)), (r64, zC cA10 16 (fun _ => iI (-1))), (r65, zC cA10 16 (fun _ => 0)), (r66, zC cA10 5 (fun _ => 0)), (q69, jC r70 r71 r72 r73 r74), (r70, zC cA10 16 (fun _ => 0)), (r71, zC cA10 16 (fun _ => 0)), (r72, zC cA10 16 (fun _ => iI (-1))), (r73, zC cA10 16 (fun _ => 0)), (r74, zC cA10 5 (fun _ => 0)), (q77, jC r78 r79 r80 r81 r82), (r78, zC cA10 16 (fun _ => 0)), (r79, zC cA10 16 (fun _ => 0)), (r80, zC cA10 16 (fun _ => iI (-1))), (r81, zC cA10 16 (fun _ => 0)), (r82, zC cA10 5 (fun _ => 0))]) (w1 := [(q85, jC r86 r87 r88 r89 r90), (r86, zC cA10 16 (fun _ => 0)), (r87, zC cA10 16 (fun _ => 0)), (r88, zC cA10 16 (fun _ => iI (-1))), (r89, zC cA10 16 (fun _ => 0)), (r90, zC cA10 5 (fun _ => 0))]) hP hD [52] [0, 1, 2, 3, 4, 5, 6, 7, 8, 9, 10, 11, 12, 13, 14, 15, 16, 17, 18, 19, 20, 21, 22, 23, 24, 25, 26, 27, 28, 29, 30, 31, 32, 33, 34, 35, 36, 37, 38, 39, 40, 41, 42, 43, 44, 45, 46, 47, 48, 49, 50, 51] rfl rfl (by decide) (by decide) hk1 hFc hP1 hD1
  generalize H1 = H at hP hS ⊢
  have hP : va_P D vwCl [(h0, .inr (4, [.ref q1, .ref q3, .ref q5, .int (iI 0), .int (iI 0), .int (iI 0), .ref q7, .ref q8, .int (iI 0), .int (iI 0), .int (iI 0), .int (iI 0), .int (iI 0), .int (iI 0), .int (iI (-1)), .int (iI (-1)), .int (iI 0), .int (iI 0), .ref q9])), (q1, oC cA2 5 f20), (q3, oC cA4 16 f52), (q5, oC cA6 5 f84), (q7, rC), (q8, rC), (q9, zC cA10 16 (fun _ => 0)), (q11, hC), (q13, hC), (q15, hC), (q17, hC), (q19, hC), (q21, bC), (q23, bC), (q25, bC), (q27, bC), (q29, bC), (q31, bC), (q33, bC), (q35, bC), (q37, bC), (q39, bC), (q41, bC), (q43, bC), (q45, bC), (q47, bC), (q49, bC), (q51, bC), (q53, jC r54 r55 r56 r57 r58), (r54, zC cA10 16 (fun _ => 0)), (r55, zC cA10 16 (fun _ => 0)), (r56, zC cA10 16 (fun _ => iI (-1))), (r57, zC cA10 16 (fun _ => 0)), (r58, zC cA10 5 (fun _ => 0)), (q61, jC r62 r63 r64 r65 r66), (r62, zC cA10 16 (fun _ => 0)), (r63, zC cA10 16 (fun _ => 0)), (r64, zC cA10 16 (fun _ => iI (-1))), (r65, zC cA10 16 (fun _ => 0)), (r66, zC cA10 5 (fun _ => 0)), (q69, jC r70 r71 r72 r73 r74), (r70, zC cA10 16 (fun _ => 0)), (r71, zC cA10 16 (fun _ => 0)), (r72, zC cA10 16 (fun _ => iI (-1))), (r73, zC cA10 16 (fun _ => 0)), (r74, zC cA10 5 (fun _ => 0)), (q77, jC r78 r79 r80 r81 r82), (r78, zC cA10 16 (fun _ => 0)), (r79, zC cA10 16 (fun _ => 0)), (r80, zC cA10 16 (fun _ => iI (-1))), (r81, zC cA10 16 (fun _ => 0)), (r82, zC cA10 5 (fun _ => 0)), (q85, jC r86 r87 r88 r89 r90), (r86, zC cA10 16 (fun _ => 0)), (r87, zC cA10 16 (fun _ => 0)), (r88, zC cA10 16 (fun _ => iI (-1))), (r89, zC cA10 16 (fun _ => 0)), (r90, zC cA10 5 (fun _ => 0))] H := hP
  have hD : va_D A [(h0, .inr (4, [.ref q1, .ref q3, .ref q5, .int (iI 0), .int (iI 0), .int (iI 0), .ref q7, .ref q8, .int (iI 0), .int (iI 0), .int (iI 0), .int (iI 0), .int (iI 0), .int (iI 0), .int (iI (-1)), .int (iI (-1)), .int (iI 0), .int (iI 0), .ref q9])), (q1, oC cA2 5 f20), (q3, oC cA4 16 f52), (q5, oC cA6 5 f84), (q7, rC), (q8, rC), (q9, zC cA10 16 (fun _ => 0)), (q11, hC), (q13, hC), (q15, hC), (q17, hC), (q19, hC), (q21, bC), (q23, bC), (q25, bC), (q27, bC), (q29, bC), (q31, bC), (q33, bC), (q35, bC), (q37, bC), (q39, bC), (q41, bC), (q43, bC), (q45, bC), (q47, bC), (q49, bC), (q51, bC), (q53, jC r54 r55 r56 r57 r58), (r54, zC cA10 16 (fun _ => 0)), (r55, zC cA10 16 (fun _ => 0)), (r56, zC cA10 16 (fun _ => iI (-1))), (r57, zC cA10 16 (fun _ => 0)), (r58, zC cA10 5 (fun _ => 0)), (q61, jC r62 r63 r64 r65 r66), (r62, zC cA10 16 (fun _ => 0)), (r63, zC cA10 16 (fun _ => 0)), (r64, zC cA10 16 (fun _ => iI (-1))), (r65, zC cA10 16 (fun _ => 0)), (r66, zC cA10 5 (fun _ => 0)), (q69, jC r70 r71 r72 r73 r74), (r70, zC cA10 16 (fun _ => 0)), (r71, zC cA10 16 (fun _ => 0)), (r72, zC cA10 16 (fun _ => iI (-1))), (r73, zC cA10 16 (fun _ => 0)), (r74, zC cA10 5 (fun _ => 0)), (q77, jC r78 r79 r80 r81 r82), (r78, zC cA10 16 (fun _ => 0)), (r79, zC cA10 16 (fun _ => 0)), (r80, zC cA10 16 (fun _ => iI (-1))), (r81, zC cA10 16 (fun _ => 0)), (r82, zC cA10 5 (fun _ => 0)), (q85, jC r86 r87 r88 r89 r90), (r86, zC cA10 16 (fun _ => 0)), (r87, zC cA10 16 (fun _ => 0)), (r88, zC cA10 16 (fun _ => iI (-1))), (r89, zC cA10 16 (fun _ => 0)), (r90, zC cA10 5 (fun _ => 0))] := hD
  refine W.widen (k := 57) (n := 661) (Nat.le_of_ble_eq_true rfl) (Nat.le_of_ble_eq_true rfl) ?_
  refine va_astq hx hb hK hP hD hS 3 2 52 2 rfl rfl rfl rfl (by unfold vp_in; decide +kernel) dX4_init_146 (fun H locs hP hD hS => ?_)
  obtain ⟨f92, hf92⟩ : ∃ f, f = va_up f84 (Int32.toNatClampNeg (iI 4)) (some q85) := ⟨_, rfl⟩
  have hP : va_P D vwCl [(h0, .inr (4, [.ref q1, .ref q3, .ref q5, .int (iI 0), .int (iI 0), .int (iI 0), .ref q7, .ref q8, .int (iI 0), .int (iI 0), .int (iI 0), .int (iI 0), .int (iI 0), .int (iI 0), .int (iI (-1)), .int (iI (-1)), .int (iI 0), .int (iI 0), .ref q9])), (q1, oC cA2 5 f20), (q3, oC cA4 16 f52), (q5, oC cA6 5 (va_up f84 (Int32.toNatClampNeg (iI 4)) (some q85))), (q7, rC), (q8, rC), (q9, zC cA10 16 (fun _ => 0)), (q11, hC), (q13, hC), (q15, hC), (q17, hC), (q19, hC), (q21, bC), (q23, bC), (q25, bC), (q27, bC), (q29, bC), (q31, bC), (q33, bC), (q35, bC), (q37, bC), (q39, bC), (q41, bC), (q43, bC), (q45, bC), (q47, bC), (q49, bC), (q51, bC), (q53, jC r54 r55 r56 r57 r58), (r54, zC cA10 16 (fun _ => 0)), (r55, zC cA10 16 (fun _ => 0)), (r56, zC cA10 16 (fun _ => iI (-1))), (r57, zC cA10 16 (fun _ => 0)), (r58, zC cA10 5 (fun _ => 0)), (q61, jC r62 r63 r64 r65 r66), (r62, zC cA10 16 (fun _ => 0)), (r63, zC cA10 16 (fun _ => 0)), (r64, zC cA10 16 (fun _ => iI (-1))), (r65, zC cA10 16 (fun _ => 0)), (r66, zC cA10 5 (fun _ => 0)), (q69, jC r70 r71 r72 r73 r74), (r70, zC cA10 16 (fun _ => 0)), (r71, zC cA10 16 (fun _ => 0)), (r72, zC cA10 16 (fun _ => iI (-1))), (r73, zC cA10 16 (fun _ => 0)), (r74, zC cA10 5 (fun _ => 0)), (q77, jC r78 r79 r80 r81 r82), (r78, zC cA10 16 (fun _ => 0)), (r79, zC cA10 16 (fun _ => 0)), (r80, zC cA10 16 (fun _ => iI (-1))), (r81, zC cA10 16 (fun _ => 0)), (r82, zC cA10 5 (fun _ => 0)), (q85, jC r86 r87 r88 r89 r90), (r86, zC cA10 16 (fun _ => 0)), (r87, zC cA10 16 (fun _ => 0)), (r88, zC cA10 16 (fun _ => iI (-1))), (r89, zC cA10 16 (fun _ => 0)), (r90, zC cA10 5 (fun _ => 0))] H := hP
  have hD : va_D A [(h0, .inr (4, [.ref q1, .ref q3, .ref q5, .int (iI 0), .int (iI 0), .int (iI 0), .ref q7, .ref q8, .int (iI 0), .int (iI 0), .int (iI 0), .int (iI 0), .int (iI 0), .int (iI 0), .int (iI (-1)), .int (iI (-1)), .int (iI 0), .int (iI 0), .ref q9])), (q1, oC cA2 5 f20), (q3, oC cA4 16 f52), (q5, oC cA6 5 (va_up f84 (Int32.toNatClampNeg (iI 4)) (some q85))), (q7, rC), (q8, rC), (q9, zC cA10 16 (fun _ => 0)), (q11, hC), (q13, hC), (q15, hC), (q17, hC), (q19, hC), (q21, bC), (q23, bC), (q25, bC), (q27, bC), (q29, bC), (q31, bC), (q33, bC), (q35, bC), (q37, bC), (q39, bC), (q41, bC), (q43, bC), (q45, bC), (q47, bC), (q49, bC), (q51, bC), (q53, jC r54 r55 r56 r57 r58), (r54, zC cA10 16 (fun _ => 0)), (r55, zC cA10 16 (fun _ => 0)), (r56, zC cA10 16 (fun _ => iI (-1))), (r57, zC cA10 16 (fun _ => 0)), (r58, zC cA10 5 (fun _ => 0)), (q61, jC r62 r63 r64 r65 r66), (r62, zC cA10 16 (fun _ => 0)), (r63, zC cA10 16 (fun _ => 0)), (r64, zC cA10 16 (fun _ => iI (-1))), (r65, zC cA10 16 (fun _ => 0)), (r66, zC cA10 5 (fun _ => 0)), (q69, jC r70 r71 r72 r73 r74), (r70, zC cA10 16 (fun _ => 0)), (r71, zC cA10 16 (fun _ => 0)), (r72, zC cA10 16 (fun _ => iI (-1))), (r73, zC cA10 16 (fun _ => 0)), (r74, zC cA10 5 (fun _ => 0)), (q77, jC r78 r79 r80 r81 r82), (r78, zC cA10 16 (fun _ => 0)), (r79, zC cA10 16 (fun _ => 0)), (r80, zC cA10 16 (fun _ => iI (-1))), (r81, zC cA10 16 (fun _ => 0)), (r82, zC cA10 5 (fun _ => 0)), (q85, jC r86 r87 r88 r89 r90), (r86, zC cA10 16 (fun _ => 0)), (r87, zC cA10 16 (fun _ => 0)), (r88, zC cA10 16 (fun _ => iI (-1))), (r89, zC cA10 16 (fun _ => 0)), (r90, zC cA10 5 (fun _ => 0))] := hD
  rw [← hf92] at hP hD
  refine lv_iinc (v := iI 5) (lv' := [(1, .int (iI 5)), (0, .ref h0)]) hx hb dX4_init_147 hl (k := 0) rfl (by decide) (by decide) rfl (fun ls hl => ?_)
  refine lv_goto (tgt := 129) hx hb dX4_init_150 (by decide) ?_
  refine lv_iload_n hx hb dX4_init_129 rfl (lv_at hl 0 rfl) ?_
  refine lv_iconst (v := iI 5) hx hb dX4_init_130 (by decide) ?_
  refine n_icmp_ge hx hb (by unfold RI; omega) (by unfold RI; omega) (tgt := 153) dX4_init_131 (by decide) (fun _ => ?_) (fun h => absurd h (by decide))
  have hP := hP.sub (ws' := [(h0, .inr (4, [.ref q1, .ref q3, .ref q5, .int (iI 0), .int (iI 0), .int (iI 0), .ref q7, .ref q8, .int (iI 0), .int (iI 0), .int (iI 0), .int (iI 0), .int (iI 0), .int (iI 0), .int (iI (-1)), .int (iI (-1)), .int (iI 0), .int (iI 0), .ref q9])), (q1, oC cA2 5 f20), (q3, oC cA4 16 f52), (q5, oC cA6 5 f92), (q7, rC), (q8, rC), (q9, zC cA10 16 (fun _ => 0)), (q11, hC), (q13, hC), (q15, hC), (q17, hC), (q19, hC), (q21, bC), (q23, bC), (q25, bC), (q27, bC), (q29, bC), (q31, bC), (q33, bC), (q35, bC), (q37, bC), (q39, bC), (q41, bC), (q43, bC), (q45, bC), (q47, bC), (q49, bC), (q51, bC), (q53, jC r54 r55 r56 r57 r58), (r54, zC cA10 16 (fun _ => 0)), (r55, zC cA10 16 (fun _ => 0)), (r56, zC cA10 16 (fun _ => iI (-1))), (r57, zC cA10 16 (fun _ => 0)), (r58, zC cA10 5 (fun _ => 0)), (q61, jC r62 r63 r64 r65 r66), (r62, zC cA10 16 (fun _ => 0)), (r63, zC cA10 16 (fun _ => 0)), (r64, zC cA10 16 (fun _ => iI (-1))), (r65, zC cA10 16 (fun _ => 0)), (r66, zC cA10 5 (fun _ => 0)), (q69, jC r70 r71 r72 r73 r74), (r70, zC cA10 16 (fun _ => 0)), (r71, zC cA10 16 (fun _ => 0)), (r72, zC cA10 16 (fun _ => iI (-1))), (r73, zC cA10 16 (fun _ => 0)), (r74, zC cA10 5 (fun _ => 0)), (q77, jC r78 r79 r80 r81 r82), (r78, zC cA10 16 (fun _ => 0)), (r79, zC cA10 16 (fun _ => 0)), (r80, zC cA10 16 (fun _ => iI (-1))), (r81, zC cA10 16 (fun _ => 0)), (r82, zC cA10 5 (fun _ => 0)), (q85, jC r86 r87 r88 r89 r90), (r86, zC cA10 16 (fun _ => 0)), (r87, zC cA10 16 (fun _ => 0)), (r88, zC cA10 16 (fun _ => iI (-1))), (r89, zC cA10 16 (fun _ => 0)), (r90, zC cA10 5 (fun _ => 0))]) [0, 1, 2, 3, 4, 5, 6, 7, 8, 9, 10, 11, 12, 13, 14, 15, 16, 17, 18, 19, 20, 21, 22, 23, 24, 25, 26, 27, 28, 29, 30, 31, 32, 33, 34, 35, 36, 37, 38, 39, 40, 41, 42, 43, 44, 45, 46, 47, 48, 49, 50, 51, 52, 53, 54, 55, 56, 57] rfl
  have hD := hD.sub (ws' := [(h0, .inr (4, [.ref q1, .ref q3, .ref q5, .int (iI 0), .int (iI 0), .int (iI 0), .ref q7, .ref q8, .int (iI 0), .int (iI 0), .int (iI 0), .int (iI 0), .int (iI 0), .int (iI 0), .int (iI (-1)), .int (iI (-1)), .int (iI 0), .int (iI 0), .ref q9])), (q1, oC cA2 5 f20), (q3, oC cA4 16 f52), (q5, oC cA6 5 f92), (q7, rC), (q8, rC), (q9, zC cA10 16 (fun _ => 0)), (q11, hC), (q13, hC), (q15, hC), (q17, hC), (q19, hC), (q21, bC), (q23, bC), (q25, bC), (q27, bC), (q29, bC), (q31, bC), (q33, bC), (q35, bC), (q37, bC), (q39, bC), (q41, bC), (q43, bC), (q45, bC), (q47, bC), (q49, bC), (q51, bC), (q53, jC r54 r55 r56 r57 r58), (r54, zC cA10 16 (fun _ => 0)), (r55, zC cA10 16 (fun _ => 0)), (r56, zC cA10 16 (fun _ => iI (-1))), (r57, zC cA10 16 (fun _ => 0)), (r58, zC cA10 5 (fun _ => 0)), (q61, jC r62 r63 r64 r65 r66), (r62, zC cA10 16 (fun _ => 0)), (r63, zC cA10 16 (fun _ => 0)), (r64, zC cA10 16 (fun _ => iI (-1))), (r65, zC cA10 16 (fun _ => 0)), (r66, zC cA10 5 (fun _ => 0)), (q69, jC r70 r71 r72 r73 r74), (r70, zC cA10 16 (fun _ => 0)), (r71, zC cA10 16 (fun _ => 0)), (r72, zC cA10 16 (fun _ => iI (-1))), (r73, zC cA10 16 (fun _ => 0)), (r74, zC cA10 5 (fun _ => 0)), (q77, jC r78 r79 r80 r81 r82), (r78, zC cA10 16 (fun _ => 0)), (r79, zC cA10 16 (fun _ => 0)), (r80, zC cA10 16 (fun _ => iI (-1))), (r81, zC cA10 16 (fun _ => 0)), (r82, zC cA10 5 (fun _ => 0)), (q85, jC r86 r87 r88 r89 r90), (r86, zC cA10 16 (fun _ => 0)), (r87, zC cA10 16 (fun _ => 0)), (r88, zC cA10 16 (fun _ => iI (-1))), (r89, zC cA10 16 (fun _ => 0)), (r90, zC cA10 5 (fun _ => 0))]) [0, 1, 2, 3, 4, 5, 6, 7, 8, 9, 10, 11, 12, 13, 14, 15, 16, 17, 18, 19, 20, 21, 22, 23, 24, 25, 26, 27, 28, 29, 30, 31, 32, 33, 34, 35, 36, 37, 38, 39, 40, 41, 42, 43, 44, 45, 46, 47, 48, 49, 50, 51, 52, 53, 54, 55, 56, 57] (by decide) rfl
  obtain ⟨a, hal⟩ : ∃ a, a = lk [h0, q1, q3, q5, q7, q8, q9, q11, q13, q15, q17, q19, q21, q23, q25, q27, q29, q31, q33, q35, q37, q39, q41, q43, q45, q47, q49, q51, q53, r54, r55, r56, r57, r58, q61, r62, r63, r64, r65, r66, q69, r70, r71, r72, r73, r74, q77, r78, r79, r80, r81, r82, q85, r86, r87, r88, r89, r90] := ⟨_, rfl⟩
  have hP := va_rowq (f' := fun n => some (a (7 + n))) (k := 1) hP rfl (by rw [hal, hf20, hf18, hf16, hf14, hf12]; intro j hj; rcases (show j = 0 ∨ j = 1 ∨ j = 2 ∨ j = 3 ∨ j = 4 from by omega) with rfl | rfl | rfl | rfl | rfl <;> rfl)
  have hP := va_rowq (f' := fun n => some (a (12 + n))) (k := 2) hP rfl (by rw [hal, hf52, hf50, hf48, hf46, hf44, hf42, hf40, hf38, hf36, hf34, hf32, hf30, hf28, hf26, hf24, hf22]; intro j hj; rcases (show j = 0 ∨ j = 1 ∨ j = 2 ∨ j = 3 ∨ j = 4 ∨ j = 5 ∨ j = 6 ∨ j = 7 ∨ j = 8 ∨ j = 9 ∨ j = 10 ∨ j = 11 ∨ j = 12 ∨ j = 13 ∨ j = 14 ∨ j = 15 from by omega) with rfl | rfl | rfl | rfl | rfl | rfl | rfl | rfl | rfl | rfl | rfl | rfl | rfl | rfl | rfl | rfl <;> rfl)
  have hP := va_rowq (f' := fun n => some (a (28 + 6 * n))) (k := 3) hP rfl (by rw [hal, hf92, hf84, hf76, hf68, hf60]; intro j hj; rcases (show j = 0 ∨ j = 1 ∨ j = 2 ∨ j = 3 ∨ j = 4 from by omega) with rfl | rfl | rfl | rfl | rfl <;> rfl)
  have hK := hK.sub (tys' := pT cA2 cA4 cA6 cA10) [0, 1, 2, 3] rfl
  have hm : ∀ k, k < 58 → va_at D vwCl (a k, pcell a cA2 cA4 cA6 cA10 m_g0 (fun _ => 0) k) H := by
    rw [hal] at hP ⊢
    intro k hk
    match k, hk with
    | 0, _ => exact hP 0 _ rfl
    | 1, _ => exact hP 1 _ rfl
    | 2, _ => exact hP 2 _ rfl
    | 3, _ => exact hP 3 _ rfl
    | 4, _ => exact hP 4 _ rfl
    | 5, _ => exact hP 5 _ rfl
    | 6, _ => exact hP 6 _ rfl
    | 7, _ => exact hP 7 _ rfl
    | 8, _ => exact hP 8 _ rfl
    | 9, _ => exact hP 9 _ rfl
    | 10, _ => exact hP 10 _ rfl
    | 11, _ => exact hP 11 _ rfl
    | 12, _ => exact hP 12 _ rfl
    | 13, _ => exact hP 13 _ rfl
    | 14, _ => exact hP 14 _ rfl
    | 15, _ => exact hP 15 _ rfl
    | 16, _ => exact hP 16 _ rfl
    | 17, _ => exact hP 17 _ rfl
    | 18, _ => exact hP 18 _ rfl
    | 19, _ => exact hP 19 _ rfl
    | 20, _ => exact hP 20 _ rfl
    | 21, _ => exact hP 21 _ rfl
    | 22, _ => exact hP 22 _ rfl
    | 23, _ => exact hP 23 _ rfl
    | 24, _ => exact hP 24 _ rfl
    | 25, _ => exact hP 25 _ rfl
    | 26, _ => exact hP 26 _ rfl
    | 27, _ => exact hP 27 _ rfl
    | 28, _ => exact hP 28 _ rfl
    | 29, _ => exact hP 29 _ rfl
    | 30, _ => exact hP 30 _ rfl
    | 31, _ => exact hP 31 _ rfl
    | 32, _ => exact hP 32 _ rfl
    | 33, _ => exact hP 33 _ rfl
    | 34, _ => exact hP 34 _ rfl
    | 35, _ => exact hP 35 _ rfl
    | 36, _ => exact hP 36 _ rfl
    | 37, _ => exact hP 37 _ rfl
    | 38, _ => exact hP 38 _ rfl
    | 39, _ => exact hP 39 _ rfl
    | 40, _ => exact hP 40 _ rfl
    | 41, _ => exact hP 41 _ rfl
    | 42, _ => exact hP 42 _ rfl
    | 43, _ => exact hP 43 _ rfl
    | 44, _ => exact hP 44 _ rfl
    | 45, _ => exact hP 45 _ rfl
    | 46, _ => exact hP 46 _ rfl
    | 47, _ => exact hP 47 _ rfl
    | 48, _ => exact hP 48 _ rfl
    | 49, _ => exact hP 49 _ rfl
    | 50, _ => exact hP 50 _ rfl
    | 51, _ => exact hP 51 _ rfl
    | 52, _ => exact hP 52 _ rfl
    | 53, _ => exact hP 53 _ rfl
    | 54, _ => exact hP 54 _ rfl
    | 55, _ => exact hP 55 _ rfl
    | 56, _ => exact hP 56 _ rfl
    | 57, _ => exact hP 57 _ rfl
    | k + 58, h => exact absurd h (by omega)
  have hPw : va_P D vwCl (pw a cA2 cA4 cA6 cA10 m_g0 (fun _ => 0)) H := fun k q hk => by
    have z := (pw_at hk).1
    rw [pw_get z] at hk
    cases hk
    exact hm k z
  have hpj : pj a := by rw [hal]; exact lk_inj rfl rfl hD
  have hAA : ∀ k, k < 58 → a k = h0 ∨ s.heap.size ≤ a k := fun k hk => by
    obtain ⟨e9, h9⟩ := lk_at (W := [(h0, .inr (4, [.ref q1, .ref q3, .ref q5, .int (iI 0), .int (iI 0), .int (iI 0), .ref q7, .ref q8, .int (iI 0), .int (iI 0), .int (iI 0), .int (iI 0), .int (iI 0), .int (iI 0), .int (iI (-1)), .int (iI (-1)), .int (iI 0), .int (iI 0), .ref q9])), (q1, oC cA2 5 f20), (q3, oC cA4 16 f52), (q5, oC cA6 5 f92), (q7, rC), (q8, rC), (q9, zC cA10 16 (fun _ => 0)), (q11, hC), (q13, hC), (q15, hC), (q17, hC), (q19, hC), (q21, bC), (q23, bC), (q25, bC), (q27, bC), (q29, bC), (q31, bC), (q33, bC), (q35, bC), (q37, bC), (q39, bC), (q41, bC), (q43, bC), (q45, bC), (q47, bC), (q49, bC), (q51, bC), (q53, jC r54 r55 r56 r57 r58), (r54, zC cA10 16 (fun _ => 0)), (r55, zC cA10 16 (fun _ => 0)), (r56, zC cA10 16 (fun _ => iI (-1))), (r57, zC cA10 16 (fun _ => 0)), (r58, zC cA10 5 (fun _ => 0)), (q61, jC r62 r63 r64 r65 r66), (r62, zC cA10 16 (fun _ => 0)), (r63, zC cA10 16 (fun _ => 0)), (r64, zC cA10 16 (fun _ => iI (-1))), (r65, zC cA10 16 (fun _ => 0)), (r66, zC cA10 5 (fun _ => 0)), (q69, jC r70 r71 r72 r73 r74), (r70, zC cA10 16 (fun _ => 0)), (r71, zC cA10 16 (fun _ => 0)), (r72, zC cA10 16 (fun _ => iI (-1))), (r73, zC cA10 16 (fun _ => 0)), (r74, zC cA10 5 (fun _ => 0)), (q77, jC r78 r79 r80 r81 r82), (r78, zC cA10 16 (fun _ => 0)), (r79, zC cA10 16 (fun _ => 0)), (r80, zC cA10 16 (fun _ => iI (-1))), (r81, zC cA10 16 (fun _ => 0)), (r82, zC cA10 5 (fun _ => 0)), (q85, jC r86 r87 r88 r89 r90), (r86, zC cA10 16 (fun _ => 0)), (r87, zC cA10 16 (fun _ => 0)), (r88, zC cA10 16 (fun _ => iI (-1))), (r89, zC cA10 16 (fun _ => 0)), (r90, zC cA10 5 (fun _ => 0))]) (l := [h0, q1, q3, q5, q7, q8, q9, q11, q13, q15, q17, q19, q21, q23, q25, q27, q29, q31, q33, q35, q37, q39, q41, q43, q45, q47, q49, q51, q53, r54, r55, r56, r57, r58, q61, r62, r63, r64, r65, r66, q69, r70, r71, r72, r73, r74, q77, r78, r79, r80, r81, r82, q85, r86, r87, r88, r89, r90]) rfl (i := k) (by simpa using hk)
    have h8 := hD.2 k _ h9
    rw [← hAe] at h8
    rw [hal]
    exact vA_one h8
  exact W.vret hx hb hr (fun t ht hW9 => ⟨⟨(), rfl, trivial, a, cA2, cA4, cA6, cA10, (by rw [hal]; rfl), hpj, hAA, by rw [ht]; exact hPw, va_K.moved hW9.alike hK⟩, hS.F ht⟩) hS.2.2 dX4_init_153
